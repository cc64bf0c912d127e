
def pwZ (b : Int) : Nat → Int
  | 0 => 1
  | k + 1 => pwZ b k * b
def roN (n : Int) : Nat → Int
  | 0 => 1
  | k + 1 => roN n k * (n - (k : Int)) / ((k : Int) + 1)
def chZ (n x : Int) (sel : Nat → Prop) [DecidablePred sel] : Nat → Int
  | 0 => 0
  | k + 1 => if sel k then chZ n x sel k + roN n k * pwZ (10 - x) k * pwZ x (n - (k : Int)).toNat else chZ n x sel k
def gcG : Nat → Int → Int → Int
  | 0, a, _ => a
  | k + 1, a, b => if b = 0 then a else gcG k b (a % b)
theorem roN_tab : ∀ n : Fin 7, ∀ k : Fin 8, 0 ≤ roN ((n : Nat) : Int) k ∧ roN ((n : Nat) : Int) k ≤ 20 ∧ ((k : Nat) ≤ (n : Nat) → 0 ≤ roN ((n : Nat) : Int) k * (((n : Nat) : Int) - ((k : Nat) : Int)) ∧ roN ((n : Nat) : Int) k * (((n : Nat) : Int) - ((k : Nat) : Int)) ≤ 1000) := by decide +kernel
theorem roN_rng {n : Int} {k : Nat} (hn : 0 ≤ n ∧ n ≤ 6) (hk : (k : Int) ≤ n) : 0 ≤ roN n k ∧ roN n k ≤ 20 ∧ 0 ≤ roN n k * (n - (k : Int)) ∧ roN n k * (n - (k : Int)) ≤ 1000 := by
  obtain ⟨m, rfl⟩ := Int.eq_ofNat_of_zero_le hn.1
  have h := roN_tab ⟨m, by omega⟩ ⟨k, by omega⟩
  exact ⟨h.1, h.2.1, h.2.2 (by show k ≤ m; omega)⟩
theorem pwZ_nn {b : Int} (hb : 0 ≤ b) : ∀ k, 0 ≤ pwZ b k
  | 0 => by simp [pwZ]
  | k + 1 => Int.mul_nonneg (pwZ_nn hb k) hb
theorem ch_tab : ∀ n : Fin 7, ∀ x : Fin 11, chZ ((n : Nat) : Int) ((x : Nat) : Int) (fun _ => True) (n + 1) = pwZ 10 n := by decide +kernel
theorem chZ_mono {n x : Int} {sel : Nat → Prop} [DecidablePred sel] (hn : 0 ≤ n ∧ n ≤ 6) (hx : 0 ≤ x ∧ x ≤ 10) : ∀ k : Nat, (k : Int) ≤ n + 1 → 0 ≤ chZ n x sel k ∧ chZ n x sel k ≤ chZ n x (fun _ => True) k
  | 0, _ => by simp [chZ]
  | k + 1, hk => by
    have h := chZ_mono (sel := sel) hn hx k (by omega)
    have h1 := roN_rng (k := k) hn (by omega)
    have h2 := Int.mul_nonneg (Int.mul_nonneg h1.1 (pwZ_nn (b := 10 - x) (by omega) k)) (pwZ_nn (b := x) (by omega) (n - (k : Int)).toNat)
    unfold chZ
    rw [if_pos trivial]
    split <;> omega
theorem pw10 : ∀ n : Fin 7, 1 ≤ pwZ 10 n ∧ pwZ 10 n ≤ 1000000 := by decide +kernel
theorem pw10_rng {n : Int} (hn : 0 ≤ n ∧ n ≤ 6) : 1 ≤ pwZ 10 n.toNat ∧ pwZ 10 n.toNat ≤ 1000000 := pw10 ⟨n.toNat, by omega⟩
theorem chZ_rng {n x : Int} {sel : Nat → Prop} [DecidablePred sel] (hn : 0 ≤ n ∧ n ≤ 6) (hx : 0 ≤ x ∧ x ≤ 10) : 0 ≤ chZ n x sel (n + 1).toNat ∧ chZ n x sel (n + 1).toNat ≤ 1000000 := by
  have h := chZ_mono (sel := sel) hn hx (n + 1).toNat (by omega)
  obtain ⟨m, rfl⟩ := Int.eq_ofNat_of_zero_le hn.1
  obtain ⟨y, rfl⟩ := Int.eq_ofNat_of_zero_le hx.1
  have h2 := ch_tab ⟨m, by omega⟩ ⟨y, by omega⟩
  have h3 := pw10 ⟨m, by omega⟩
  have e : ((m : Int) + 1).toNat = m + 1 := by omega
  rw [e] at h ⊢
  have h4 : chZ (m : Int) (y : Int) (fun _ => True) (m + 1) = pwZ 10 m := h2
  have h5 : pwZ 10 m ≤ 1000000 := h3.2
  omega
theorem gcG_pos : ∀ (k : Nat) (a b : Int), 1 ≤ a → 0 ≤ b → 1 ≤ gcG k a b ∧ (∀ M : Int, a ≤ M → b ≤ M → gcG k a b ≤ M)
  | 0, a, b, ha, hb => ⟨ha, fun M h _ => h⟩
  | k + 1, a, b, ha, hb => by
    unfold gcG
    split
    · exact ⟨ha, fun M h _ => h⟩
    · have hm := Int.emod_nonneg a (b := b) (by omega)
      have hl := Int.emod_lt_of_pos a (b := b) (by omega)
      have h := gcG_pos k b (a % b) (by omega) hm
      exact ⟨h.1, fun M h1 h2 => h.2 M h2 (by omega)⟩
theorem gcG_rng {k : Nat} {a b : Int} (ha : 0 ≤ a ∧ a ≤ 1000000) (hb : 1 ≤ b ∧ b ≤ 1000000) : 1 ≤ gcG (k + 1) a b ∧ gcG (k + 1) a b ≤ 1000000 := by
  unfold gcG
  rw [if_neg (by omega)]
  have hm := Int.emod_nonneg a (b := b) (by omega)
  have hl := Int.emod_lt_of_pos a (b := b) (by omega)
  have h := gcG_pos k b (a % b) (by omega) hm
  exact ⟨h.1, h.2 1000000 (by omega) (by omega)⟩

theorem gcG64 {a b : Int} (ha : 0 ≤ a ∧ a ≤ 1000000) (hb : 1 ≤ b ∧ b ≤ 1000000) : 1 ≤ gcG 64 a b ∧ gcG 64 a b ≤ 1000000 := gcG_rng (k := 63) ha hb
theorem pd_X8_power : yX8_power.cls = RX8 ∧ yX8_power.cls ≠ "java/lang/invoke/MethodHandle" ∧ yX8_power.cls ≠ "java/lang/invoke/VarHandle" ∧ (parseMethodDescriptor yX8_power.desc).map (fun d => d.parameters.length) = some 2 := by decide +kernel
abbrev rmX8_power : Room := { frames := 0, cells := 0, slots := 0, locals := 0 }
set_option maxHeartbeats 4000000 in
set_option maxRecDepth 100000 in
theorem c_X8_power (l : Launch) (G : CX) (b : Int) (ex : Int) (hex : 0 ≤ ex ∧ ex ≤ 100) : Met l yX8_power wsX8_power rmX8_power (rdP G [.int (zI b), .int (zI ex)] []) (rdQ (zI (pwZ b ex.toNat))) 0 0 noA := by
  refine rd_ofW (cc := cX8_power) (maxL := 4) (ty := .int) (by decide) rfl (Nat.le_of_ble_eq_true rfl) rfl ?_
  intro p e s m below meth c Q A hx hb hml hown hts hK hret H locs hP hS ls hl
  have hown : s.vm.findClass RX8 = some m.cls := hown
  have hl : lv_has ls 4 [(0, .int (zI b)), (1, .int (zI ex))] := hl
  refine lv_iconst (v := zI 1) hx hb dX8_power_0 rfl ?_
  refine lv_istore_n (lv' := [(2, .int (zI 1)), (0, .int (zI b)), (1, .int (zI ex))]) hx hb dX8_power_1 rfl hl (by decide) rfl (fun ls hl => ?_)
  refine lv_iconst (v := zI 0) hx hb dX8_power_2 rfl ?_
  refine lv_istore_n (lv' := [(3, .int (zI 0)), (2, .int (zI 1)), (0, .int (zI b)), (1, .int (zI ex))]) hx hb dX8_power_3 rfl hl (by decide) rfl (fun ls hl => ?_)
  have loop4 : ∀ (n_ : Nat) (i : Int) (pr : Int) (H : Heap) (locs : List Loc) (ls : Array Slot), (0 ≤ i ∧ i ≤ ex) → (pr = pwZ b i.toNat) → (ex - i).toNat < n_ → kP G [] H → va_S A s.heap H locs → lv_has ls 4 [(3, .int (zI i)), (2, .int (zI pr)), (0, .int (zI b)), (1, .int (zI ex))] → W p l e rmX8_power s m ([.int (zI b), .int (zI ex)] : List Value).toArray below meth c H locs 0 0 Q (F0 m 4 ls []) := by
    intro n_
    induction n_ with
    | zero =>
      intro i pr H locs ls hi hpr hm
      exact absurd hm (Nat.not_lt_zero _)
    | succ n_ ih4 =>
      intro i pr H locs ls hi hpr hm4 hP hS hl
      refine lv_iload_n hx hb dX8_power_4 rfl (lv_at hl 0 rfl) ?_
      refine lv_iload_n hx hb dX8_power_5 rfl (lv_at hl 3 rfl) ?_
      refine z_icmp_ge (tgt := 19) hx hb (by omega) dX8_power_6 (by decide) (fun c_1 => ?_) (fun c_1 => ?_)
      · refine lv_iload_n hx hb dX8_power_19 rfl (lv_at hl 1 rfl) ?_
        exact hret H locs ls 20 _ (congrArg zI (by rw [hpr, show i = ex by omega])) hS dX8_power_20
      · refine lv_iload_n hx hb dX8_power_9 rfl (lv_at hl 1 rfl) ?_
        refine lv_iload_n hx hb dX8_power_10 rfl (lv_at hl 2 rfl) ?_
        refine z_imul hx hb dX8_power_11 ?_
        refine lv_istore_n (lv' := [(2, .int (zI (pr * b))), (3, .int (zI i)), (0, .int (zI b)), (1, .int (zI ex))]) hx hb dX8_power_12 rfl hl (by decide) rfl (fun ls hl => ?_)
        refine lv_iinc (v := zI (i + 1)) (lv' := [(3, .int (zI (i + 1))), (2, .int (zI (pr * b))), (0, .int (zI b)), (1, .int (zI ex))]) hx hb dX8_power_13 hl (k := 1) rfl (zI_add _ _) (by decide) rfl (fun ls hl => ?_)
        refine lv_goto (tgt := 4) hx hb dX8_power_16 (by decide) ?_
        exact ih4 (i + 1) (pr * b) H locs ls (by omega) (by rw [tn1 hi.1, pwZ, ← hpr]) (by omega) hP hS (lv_sub hl [0, 1, 2, 3] rfl)
  exact loop4 _ 0 1 H locs ls (by omega) rfl (Nat.lt_succ_self _) hP hS (lv_sub hl [0, 1, 2, 3] rfl)
theorem mod_rg {a b : Int} (hb : 0 < b) : 0 ≤ a % b ∧ a % b < b := ⟨Int.emod_nonneg _ (by omega), Int.emod_lt_of_pos _ hb⟩
theorem pd_X8_commonDivisor : yX8_commonDivisor.cls = RX8 ∧ yX8_commonDivisor.cls ≠ "java/lang/invoke/MethodHandle" ∧ yX8_commonDivisor.cls ≠ "java/lang/invoke/VarHandle" ∧ (parseMethodDescriptor yX8_commonDivisor.desc).map (fun d => d.parameters.length) = some 2 := by decide +kernel
abbrev rmX8_commonDivisor : Room := { frames := 0, cells := 0, slots := 0, locals := 0 }
set_option maxHeartbeats 4000000 in
set_option maxRecDepth 100000 in
theorem c_X8_commonDivisor (l : Launch) (G : CX) (a : Int) (b : Int) (hab : (0 ≤ a ∧ a ≤ 1000000) ∧ (1 ≤ b ∧ b ≤ 1000000)) : Met l yX8_commonDivisor wsX8_commonDivisor rmX8_commonDivisor (rdP G [.int (zI a), .int (zI b)] []) (rdQ (zI (gcG 64 a b))) 0 0 noA := by
  refine rd_ofW (cc := cX8_commonDivisor) (maxL := 6) (ty := .int) (by decide) rfl (Nat.le_of_ble_eq_true rfl) rfl ?_
  intro p e s m below meth c Q A hx hb hml hown hts hK hret H locs hP hS ls hl
  have hown : s.vm.findClass RX8 = some m.cls := hown
  have hl : lv_has ls 6 [(0, .int (zI a)), (1, .int (zI b))] := hl
  refine lv_iload_n hx hb dX8_commonDivisor_0 rfl (lv_at hl 0 rfl) ?_
  refine lv_istore_n (lv' := [(2, .int (zI a)), (0, .int (zI a)), (1, .int (zI b))]) hx hb dX8_commonDivisor_1 rfl hl (by decide) rfl (fun ls hl => ?_)
  refine lv_iload_n hx hb dX8_commonDivisor_2 rfl (lv_at hl 2 rfl) ?_
  refine lv_istore_n (lv' := [(3, .int (zI b)), (2, .int (zI a)), (0, .int (zI a)), (1, .int (zI b))]) hx hb dX8_commonDivisor_3 rfl hl (by decide) rfl (fun ls hl => ?_)
  refine lv_iconst (v := zI 0) hx hb dX8_commonDivisor_4 rfl ?_
  refine lv_istore (lv' := [(4, .int (zI 0)), (3, .int (zI b)), (2, .int (zI a)), (0, .int (zI a)), (1, .int (zI b))]) hx hb dX8_commonDivisor_5 hl (by decide) rfl (fun ls hl => ?_)
  have loop7 : ∀ (n_ : Nat) (i : Int) (la : Int) (sm : Int) (H : Heap) (locs : List Loc) (ls : Array Slot), (0 ≤ i ∧ i ≤ 64) → ((0 ≤ la ∧ la ≤ 1000000) ∧ (0 ≤ sm ∧ sm ≤ 1000000)) → (gcG (64 - i).toNat la sm = gcG 64 a b) → (64 - i).toNat < n_ → kP G [] H → va_S A s.heap H locs → lv_has ls 6 [(4, .int (zI i)), (3, .int (zI sm)), (2, .int (zI la)), (0, .int (zI a)), (1, .int (zI b))] → W p l e rmX8_commonDivisor s m ([.int (zI a), .int (zI b)] : List Value).toArray below meth c H locs 0 0 Q (F0 m 7 ls []) := by
    intro n_
    induction n_ with
    | zero =>
      intro i la sm H locs ls hi hls hgc hm
      exact absurd hm (Nat.not_lt_zero _)
    | succ n_ ih7 =>
      intro i la sm H locs ls hi hls hgc hm7 hP hS hl
      refine lv_iload hx hb dX8_commonDivisor_7 (lv_at hl 0 rfl) ?_
      refine lv_bipush (v := zI 64) hx hb dX8_commonDivisor_9 (by decide) ?_
      refine z_icmp_ge (tgt := 34) hx hb (by omega) dX8_commonDivisor_11 (by decide) (fun c_1 => ?_) (fun c_1 => ?_)
      · refine lv_iload_n hx hb dX8_commonDivisor_34 rfl (lv_at hl 2 rfl) ?_
        exact hret H locs ls 35 _ (congrArg zI (by rw [← hgc]; first | (rw [show (64 - i).toNat = 0 by omega]; rfl) | (cases hk : (64 - i).toNat with | zero => rfl | succ k => rw [gcG, if_pos (by omega)]))) hS dX8_commonDivisor_35
      · refine lv_iload_n hx hb dX8_commonDivisor_14 rfl (lv_at hl 1 rfl) ?_
        refine z_if_eq (tgt := 34) hx hb (by omega) dX8_commonDivisor_15 (by decide) (fun c_2 => ?_) (fun c_2 => ?_)
        · refine lv_iload_n hx hb dX8_commonDivisor_34 rfl (lv_at hl 2 rfl) ?_
          exact hret H locs ls 35 _ (congrArg zI (by rw [← hgc]; first | (rw [show (64 - i).toNat = 0 by omega]; rfl) | (cases hk : (64 - i).toNat with | zero => rfl | succ k => rw [gcG, if_pos (by omega)]))) hS dX8_commonDivisor_35
        · refine lv_iload_n hx hb dX8_commonDivisor_18 rfl (lv_at hl 2 rfl) ?_
          refine lv_iload_n hx hb dX8_commonDivisor_19 rfl (lv_at hl 1 rfl) ?_
          refine z_irem hx hb (by omega) dX8_commonDivisor_20 ?_
          refine lv_istore (lv' := [(5, .int (zI (la % sm))), (4, .int (zI i)), (3, .int (zI sm)), (2, .int (zI la)), (0, .int (zI a)), (1, .int (zI b))]) hx hb dX8_commonDivisor_21 hl (by decide) rfl (fun ls hl => ?_)
          refine lv_iload_n hx hb dX8_commonDivisor_23 rfl (lv_at hl 2 rfl) ?_
          refine lv_istore_n (lv' := [(2, .int (zI sm)), (5, .int (zI (la % sm))), (4, .int (zI i)), (3, .int (zI sm)), (0, .int (zI a)), (1, .int (zI b))]) hx hb dX8_commonDivisor_24 rfl hl (by decide) rfl (fun ls hl => ?_)
          refine lv_iload hx hb dX8_commonDivisor_25 (lv_at hl 1 rfl) ?_
          refine lv_istore_n (lv' := [(3, .int (zI (la % sm))), (2, .int (zI sm)), (5, .int (zI (la % sm))), (4, .int (zI i)), (0, .int (zI a)), (1, .int (zI b))]) hx hb dX8_commonDivisor_27 rfl hl (by decide) rfl (fun ls hl => ?_)
          refine lv_iinc (v := zI (i + 1)) (lv' := [(4, .int (zI (i + 1))), (3, .int (zI (la % sm))), (2, .int (zI sm)), (5, .int (zI (la % sm))), (0, .int (zI a)), (1, .int (zI b))]) hx hb dX8_commonDivisor_28 hl (k := 3) rfl (zI_add _ _) (by decide) rfl (fun ls hl => ?_)
          refine lv_goto (tgt := 7) hx hb dX8_commonDivisor_31 (by decide) ?_
          exact ih7 (i + 1) sm (la % sm) H locs ls (by omega) (by have := mod_rg (a := la) (b := sm) (by omega); omega) (by rw [← hgc, show (64 - i).toNat = (64 - (i + 1)).toNat + 1 by omega, gcG, if_neg (by omega)]) (by omega) hP hS (lv_sub hl [0, 1, 2, 4, 5] rfl)
  exact loop7 _ 0 a b H locs ls (by omega) (by omega) rfl (Nat.lt_succ_self _) hP hS (lv_sub hl [0, 1, 2, 3, 4] rfl)
theorem pd_X8_chances : yX8_chances.cls = RX8 ∧ yX8_chances.cls ≠ "java/lang/invoke/MethodHandle" ∧ yX8_chances.cls ≠ "java/lang/invoke/VarHandle" ∧ (parseMethodDescriptor yX8_chances.desc).map (fun d => d.parameters.length) = some 4 := by decide +kernel
abbrev rmX8_chances : Room := { frames := 2, cells := 0, slots := 0, locals := 45 }
set_option maxHeartbeats 4000000 in
set_option maxRecDepth 100000 in
theorem c_X8_chances (l : Launch) (G : CX) (hq0 : Nat) (hx0 : Nat) (hr0 : Nat) (hb0 : Nat) (hy0 : Nat) (hp0 : Nat) (hn0 : Nat) (hw0 : Nat) (hh0 : Nat) (aim : Nat) (aik : Nat) (tr : Int64) (aw : Nat) (wy : Int) (se : Int) (tu : Int) (al : Nat) (S : Int) (C : Int) (Wy : Int) (Li : Int) (St : Int) (t : Int) (x : Int) (n : Int) (w : Int) (hB : (2 ≤ S ∧ S ≤ 6) ∧ (C = 1 ∧ Wy = S ∨ C = 2 ∧ Wy = 2 * S)) (hwy : 0 ≤ wy ∧ wy < Wy) (ht : 0 ≤ t ∧ t < Wy) (hx10 : 0 ≤ x ∧ x ≤ 10) (hn6 : 0 ≤ n ∧ n ≤ 6) (hw : 0 ≤ w ∧ w < Wy) : Met l yX8_chances wsX8_chances rmX8_chances (rdP G [.ref hq0, .int (zI t), .int (zI x), .int (zI n), .int (zI w)] [(hq0, .inr (8, [.ref hx0, .ref hr0, .ref hb0, .ref hy0, .ref hp0, .ref hn0, .ref hw0, .ref hh0, .ref aim, .ref aik, .long tr])), (hy0, .inr (2, [.int (zI wy), .int (zI se), .int (zI tu), .ref aw])), (hb0, .inr (0, [.int (zI S), .int (zI C), .int (zI Wy), .int (zI Li), .int (zI St), .ref al]))]) (rdQ (zI (chZ n x (fun k => wyI S t wy k = w)  (n + 1).toNat))) 0 0 noA := by
  refine rd_ofW (cc := cX8_chances) (maxL := 9) (ty := .int) (by decide) rfl (Nat.le_of_ble_eq_true rfl) rfl ?_
  intro p e s m below meth c Q A hx hb hml hown hts hK hret H locs hP hS ls hl
  have hown : s.vm.findClass RX8 = some m.cls := hown
  have hl : lv_has ls 9 [(0, .ref hq0), (1, .int (zI t)), (2, .int (zI x)), (3, .int (zI n)), (4, .int (zI w))] := hl
  have f35 := hts (.fieldLink RX8 35 "QuarterTurns" "lying" "LQuarterTurns$Lying;") (by decide +kernel)
  have i8 : ∀ w ∈ wsX80, w ∈ wsX8_chances := fun w h => List.mem_cons_of_mem _ (List.mem_append_left _ (List.mem_append_left _ (List.mem_append_right _ h)))
  have f131 := hts (.fieldLink RX8 131 "QuarterTurns$Lying" "way" "I") (by decide +kernel)
  have i2 : ∀ w ∈ wsX20, w ∈ wsX8_chances := fun w h => List.mem_cons_of_mem _ (List.mem_append_left _ (List.mem_append_right _ h))
  have f28 := hts (.fieldLink RX8 28 "QuarterTurns" "bed" "LQuarterTurns$Bed;") (by decide +kernel)
  refine lv_iconst (v := zI 0) hx hb dX8_chances_0 rfl ?_
  refine lv_istore (lv' := [(5, .int (zI 0)), (0, .ref hq0), (1, .int (zI t)), (2, .int (zI x)), (3, .int (zI n)), (4, .int (zI w))]) hx hb dX8_chances_1 hl (by decide) rfl (fun ls hl => ?_)
  refine lv_iconst (v := zI 1) hx hb dX8_chances_3 rfl ?_
  refine lv_istore (lv' := [(6, .int (zI 1)), (5, .int (zI 0)), (0, .ref hq0), (1, .int (zI t)), (2, .int (zI x)), (3, .int (zI n)), (4, .int (zI w))]) hx hb dX8_chances_4 hl (by decide) rfl (fun ls hl => ?_)
  refine lv_aload_n hx hb dX8_chances_6 rfl (lv_at hl 2 rfl) ?_
  refine va_get (ci := 8) (v := .ref hy0) (C := RX8) (T := TX8) (N := 11) hx hb hts i8 hown hK hP 0 rfl rfl 3 (by decide) f35 (fun _ h9 => h9) rfl dX8_chances_7 ?_
  refine va_get (ci := 2) (v := .int (zI wy)) (C := RX2) (T := TX2) (N := 4) hx hb hts i2 hown hK hP 1 rfl rfl 0 (by decide) f131 (fun _ h9 => h9) rfl dX8_chances_10 ?_
  refine lv_istore (lv' := [(7, .int (zI wy)), (6, .int (zI 1)), (5, .int (zI 0)), (0, .ref hq0), (1, .int (zI t)), (2, .int (zI x)), (3, .int (zI n)), (4, .int (zI w))]) hx hb dX8_chances_13 hl (by decide) rfl (fun ls hl => ?_)
  refine lv_iconst (v := zI 0) hx hb dX8_chances_15 rfl ?_
  refine lv_istore (lv' := [(8, .int (zI 0)), (7, .int (zI wy)), (6, .int (zI 1)), (5, .int (zI 0)), (0, .ref hq0), (1, .int (zI t)), (2, .int (zI x)), (3, .int (zI n)), (4, .int (zI w))]) hx hb dX8_chances_16 hl (by decide) rfl (fun ls hl => ?_)
  have loop18 : ∀ (n_ : Nat) (m2 : Int) (su : Int) (ro : Int) (way : Int) (H : Heap) (locs : List Loc) (ls : Array Slot), (0 ≤ m2 ∧ m2 ≤ n + 1) → (0 ≤ way ∧ way < Wy) → (way = wyI S t wy m2.toNat) → (ro = roN n m2.toNat) → (su = chZ n x (fun k => wyI S t wy k = w)  m2.toNat) → (n + 1 - m2).toNat < n_ → kP G [(hq0, .inr (8, [.ref hx0, .ref hr0, .ref hb0, .ref hy0, .ref hp0, .ref hn0, .ref hw0, .ref hh0, .ref aim, .ref aik, .long tr])), (hy0, .inr (2, [.int (zI wy), .int (zI se), .int (zI tu), .ref aw])), (hb0, .inr (0, [.int (zI S), .int (zI C), .int (zI Wy), .int (zI Li), .int (zI St), .ref al]))] H → va_S A s.heap H locs → lv_has ls 9 [(8, .int (zI m2)), (7, .int (zI way)), (6, .int (zI ro)), (5, .int (zI su)), (0, .ref hq0), (1, .int (zI t)), (2, .int (zI x)), (3, .int (zI n)), (4, .int (zI w))] → W p l e rmX8_chances s m ([.ref hq0, .int (zI t), .int (zI x), .int (zI n), .int (zI w)] : List Value).toArray below meth c H locs 0 0 Q (F0 m 18 ls []) := by
    intro n_
    induction n_ with
    | zero =>
      intro m2 su ro way H locs ls hm2 hwr hwe hro hsu hm
      exact absurd hm (Nat.not_lt_zero _)
    | succ n_ ih18 =>
      intro m2 su ro way H locs ls hm2 hwr hwe hro hsu hm18 hP hS hl
      refine lv_iload hx hb dX8_chances_18 (lv_at hl 0 rfl) ?_
      refine lv_iload_n hx hb dX8_chances_20 rfl (lv_at hl 7 rfl) ?_
      refine z_icmp_gt (tgt := 89) hx hb (by omega) dX8_chances_21 (by decide) (fun c_1 => ?_) (fun c_1 => ?_)
      · refine lv_iload hx hb dX8_chances_89 (lv_at hl 3 rfl) ?_
        exact hret H locs ls 91 _ (congrArg zI (by rw [hsu, show m2 = n + 1 by omega])) hS dX8_chances_91
      · have hrr := roN_rng (n := n) (k := m2.toNat) hn6 (by omega)
        rw [← hro, Int.toNat_of_nonneg hm2.1] at hrr
        refine lv_iload hx hb dX8_chances_24 (lv_at hl 1 rfl) ?_
        refine lv_iload hx hb dX8_chances_26 (lv_at hl 8 rfl) ?_
        refine z_icmp_ne (tgt := 57) hx hb (by omega) dX8_chances_28 (by decide) (fun c_2 => ?_) (fun c_2 => ?_)
        · refine lv_aload_n hx hb dX8_chances_57 rfl (lv_at hl 4 rfl) ?_
          refine va_get (ci := 8) (v := .ref hb0) (C := RX8) (T := TX8) (N := 11) hx hb hts i8 hown hK hP 0 rfl rfl 2 (by decide) f28 (fun _ h9 => h9) rfl dX8_chances_58 ?_
          refine lv_iload hx hb dX8_chances_61 (lv_at hl 1 rfl) ?_
          refine lv_iload_n hx hb dX8_chances_63 rfl (lv_at hl 5 rfl) ?_
          refine z_cV (As := [.int (zI way), .int (zI t)]) (rest := []) ⟨hx, hb, hml, hown, hts⟩ (c_X0_from l G hb0 al S C Wy Li St way t (by first | assumption | omega) (by first | assumption | omega) (by first | assumption | omega)) (cwV 2 hts gX8_chances_X0_from rfl rfl rfl pd_X0_from ⟨(Nat.le_of_ble_eq_true rfl), (Nat.le_of_ble_eq_true rfl)⟩) hK hP hS [2] rfl rfl rfl rfl rfl hl.1 rfl (Nat.le_of_ble_eq_true rfl) dX8_chances_64 ⟨Nat.zero_le _, Nat.zero_le _⟩ (fun H locs hP hS => ?_)
          have hq_3 := fromZ_rng (C := C) (Wy := Wy) (w := way) (t := t) ((by first | assumption | omega)) ((by first | assumption | omega)) ((by first | assumption | omega))
          refine lv_istore (lv' := [(7, .int (zI (fromZ S way t))), (8, .int (zI m2)), (6, .int (zI ro)), (5, .int (zI su)), (0, .ref hq0), (1, .int (zI t)), (2, .int (zI x)), (3, .int (zI n)), (4, .int (zI w))]) hx hb dX8_chances_67 hl (by decide) rfl (fun ls hl => ?_)
          refine lv_iload hx hb dX8_chances_69 (lv_at hl 2 rfl) ?_
          refine lv_iload_n hx hb dX8_chances_71 rfl (lv_at hl 7 rfl) ?_
          refine lv_iload hx hb dX8_chances_72 (lv_at hl 1 rfl) ?_
          refine z_isub hx hb dX8_chances_74 ?_
          refine z_imul hx hb dX8_chances_75 ?_
          refine lv_iload hx hb dX8_chances_76 (lv_at hl 1 rfl) ?_
          refine lv_iconst (v := zI 1) hx hb dX8_chances_78 rfl ?_
          refine z_iadd hx hb dX8_chances_79 ?_
          refine z_idiv hx hb (by omega) dX8_chances_80 ?_
          refine lv_istore (lv' := [(6, .int (zI ((ro * (n - m2)) / (m2 + 1)))), (7, .int (zI (fromZ S way t))), (8, .int (zI m2)), (5, .int (zI su)), (0, .ref hq0), (1, .int (zI t)), (2, .int (zI x)), (3, .int (zI n)), (4, .int (zI w))]) hx hb dX8_chances_81 hl (by decide) rfl (fun ls hl => ?_)
          refine lv_iinc (v := zI (m2 + 1)) (lv' := [(8, .int (zI (m2 + 1))), (6, .int (zI ((ro * (n - m2)) / (m2 + 1)))), (7, .int (zI (fromZ S way t))), (5, .int (zI su)), (0, .ref hq0), (1, .int (zI t)), (2, .int (zI x)), (3, .int (zI n)), (4, .int (zI w))]) hx hb dX8_chances_83 hl (k := 2) rfl (zI_add _ _) (by decide) rfl (fun ls hl => ?_)
          refine lv_goto (tgt := 18) hx hb dX8_chances_86 (by decide) ?_
          exact ih18 (m2 + 1) su ((ro * (n - m2)) / (m2 + 1)) (fromZ S way t) H locs ls (by omega) (by omega) (by rw [tn1 hm2.1, wyI, ← hwe]) (by rw [tn1 hm2.1, roN, ← hro, Int.toNat_of_nonneg hm2.1]) (by rw [tn1 hm2.1, chZ, ← hsu, ← hro, Int.toNat_of_nonneg hm2.1, ← hwe]; first | rw [if_pos (by assumption)] | rw [if_neg (by assumption)]) (by omega) hP hS (lv_sub hl [0, 2, 1, 3, 4, 5, 6, 7, 8] rfl)
        · refine lv_iload hx hb dX8_chances_31 (lv_at hl 3 rfl) ?_
          refine lv_iload hx hb dX8_chances_33 (lv_at hl 2 rfl) ?_
          refine lv_bipush (v := zI 10) hx hb dX8_chances_35 (by decide) ?_
          refine lv_iload_n hx hb dX8_chances_37 rfl (lv_at hl 6 rfl) ?_
          refine z_isub hx hb dX8_chances_38 ?_
          refine lv_iload hx hb dX8_chances_39 (lv_at hl 0 rfl) ?_
          refine z_cS (As := [.int (zI (10 - x)), .int (zI m2)]) (rest := [.int (zI ro), .int (zI su)]) ⟨hx, hb, hml, hown, hts⟩ (c_X8_power l G (10 - x) m2 (by first | assumption | omega)) (va_cwS 2 hts gX8_chances_X8_power rfl rfl rfl pd_X8_power.2 ⟨(Nat.le_of_ble_eq_true rfl), (Nat.le_of_ble_eq_true rfl)⟩) hK hP hS [] rfl rfl hl.1 rfl (Nat.le_of_ble_eq_true rfl) dX8_chances_41 ⟨Nat.zero_le _, Nat.zero_le _⟩ (fun H locs hP hS => ?_)
          refine z_imul hx hb dX8_chances_44 ?_
          refine lv_iload_n hx hb dX8_chances_45 rfl (lv_at hl 6 rfl) ?_
          refine lv_iload_n hx hb dX8_chances_46 rfl (lv_at hl 7 rfl) ?_
          refine lv_iload hx hb dX8_chances_47 (lv_at hl 0 rfl) ?_
          refine z_isub hx hb dX8_chances_49 ?_
          refine z_cS (As := [.int (zI x), .int (zI (n - m2))]) (rest := [.int (zI (ro * (pwZ (10 - x) m2.toNat))), .int (zI su)]) ⟨hx, hb, hml, hown, hts⟩ (c_X8_power l G x (n - m2) (by first | assumption | omega)) (va_cwS 2 hts gX8_chances_X8_power rfl rfl rfl pd_X8_power.2 ⟨(Nat.le_of_ble_eq_true rfl), (Nat.le_of_ble_eq_true rfl)⟩) hK hP hS [] rfl rfl hl.1 rfl (Nat.le_of_ble_eq_true rfl) dX8_chances_50 ⟨Nat.zero_le _, Nat.zero_le _⟩ (fun H locs hP hS => ?_)
          refine z_imul hx hb dX8_chances_53 ?_
          refine z_iadd hx hb dX8_chances_54 ?_
          refine lv_istore (lv' := [(5, .int (zI (su + ((ro * (pwZ (10 - x) m2.toNat)) * (pwZ x (n - m2).toNat))))), (8, .int (zI m2)), (7, .int (zI way)), (6, .int (zI ro)), (0, .ref hq0), (1, .int (zI t)), (2, .int (zI x)), (3, .int (zI n)), (4, .int (zI w))]) hx hb dX8_chances_55 hl (by decide) rfl (fun ls hl => ?_)
          refine lv_aload_n hx hb dX8_chances_57 rfl (lv_at hl 4 rfl) ?_
          refine va_get (ci := 8) (v := .ref hb0) (C := RX8) (T := TX8) (N := 11) hx hb hts i8 hown hK hP 0 rfl rfl 2 (by decide) f28 (fun _ h9 => h9) rfl dX8_chances_58 ?_
          refine lv_iload hx hb dX8_chances_61 (lv_at hl 2 rfl) ?_
          refine lv_iload_n hx hb dX8_chances_63 rfl (lv_at hl 5 rfl) ?_
          refine z_cV (As := [.int (zI way), .int (zI t)]) (rest := []) ⟨hx, hb, hml, hown, hts⟩ (c_X0_from l G hb0 al S C Wy Li St way t (by first | assumption | omega) (by first | assumption | omega) (by first | assumption | omega)) (cwV 2 hts gX8_chances_X0_from rfl rfl rfl pd_X0_from ⟨(Nat.le_of_ble_eq_true rfl), (Nat.le_of_ble_eq_true rfl)⟩) hK hP hS [2] rfl rfl rfl rfl rfl hl.1 rfl (Nat.le_of_ble_eq_true rfl) dX8_chances_64 ⟨Nat.zero_le _, Nat.zero_le _⟩ (fun H locs hP hS => ?_)
          have hq_4 := fromZ_rng (C := C) (Wy := Wy) (w := way) (t := t) ((by first | assumption | omega)) ((by first | assumption | omega)) ((by first | assumption | omega))
          refine lv_istore (lv' := [(7, .int (zI (fromZ S way t))), (5, .int (zI (su + ((ro * (pwZ (10 - x) m2.toNat)) * (pwZ x (n - m2).toNat))))), (8, .int (zI m2)), (6, .int (zI ro)), (0, .ref hq0), (1, .int (zI t)), (2, .int (zI x)), (3, .int (zI n)), (4, .int (zI w))]) hx hb dX8_chances_67 hl (by decide) rfl (fun ls hl => ?_)
          refine lv_iload hx hb dX8_chances_69 (lv_at hl 3 rfl) ?_
          refine lv_iload_n hx hb dX8_chances_71 rfl (lv_at hl 7 rfl) ?_
          refine lv_iload hx hb dX8_chances_72 (lv_at hl 2 rfl) ?_
          refine z_isub hx hb dX8_chances_74 ?_
          refine z_imul hx hb dX8_chances_75 ?_
          refine lv_iload hx hb dX8_chances_76 (lv_at hl 2 rfl) ?_
          refine lv_iconst (v := zI 1) hx hb dX8_chances_78 rfl ?_
          refine z_iadd hx hb dX8_chances_79 ?_
          refine z_idiv hx hb (by omega) dX8_chances_80 ?_
          refine lv_istore (lv' := [(6, .int (zI ((ro * (n - m2)) / (m2 + 1)))), (7, .int (zI (fromZ S way t))), (5, .int (zI (su + ((ro * (pwZ (10 - x) m2.toNat)) * (pwZ x (n - m2).toNat))))), (8, .int (zI m2)), (0, .ref hq0), (1, .int (zI t)), (2, .int (zI x)), (3, .int (zI n)), (4, .int (zI w))]) hx hb dX8_chances_81 hl (by decide) rfl (fun ls hl => ?_)
          refine lv_iinc (v := zI (m2 + 1)) (lv' := [(8, .int (zI (m2 + 1))), (6, .int (zI ((ro * (n - m2)) / (m2 + 1)))), (7, .int (zI (fromZ S way t))), (5, .int (zI (su + ((ro * (pwZ (10 - x) m2.toNat)) * (pwZ x (n - m2).toNat))))), (0, .ref hq0), (1, .int (zI t)), (2, .int (zI x)), (3, .int (zI n)), (4, .int (zI w))]) hx hb dX8_chances_83 hl (k := 3) rfl (zI_add _ _) (by decide) rfl (fun ls hl => ?_)
          refine lv_goto (tgt := 18) hx hb dX8_chances_86 (by decide) ?_
          exact ih18 (m2 + 1) (su + ((ro * (pwZ (10 - x) m2.toNat)) * (pwZ x (n - m2).toNat))) ((ro * (n - m2)) / (m2 + 1)) (fromZ S way t) H locs ls (by omega) (by omega) (by rw [tn1 hm2.1, wyI, ← hwe]) (by rw [tn1 hm2.1, roN, ← hro, Int.toNat_of_nonneg hm2.1]) (by rw [tn1 hm2.1, chZ, ← hsu, ← hro, Int.toNat_of_nonneg hm2.1, ← hwe]; first | rw [if_pos (by assumption)] | rw [if_neg (by assumption)]) (by omega) hP hS (lv_sub hl [0, 2, 1, 3, 4, 5, 6, 7, 8] rfl)
  exact loop18 _ 0 0 1 wy H locs ls (by omega) (by omega) rfl rfl rfl (Nat.lt_succ_self _) hP hS (lv_sub hl [0, 1, 2, 3, 4, 5, 6, 7, 8] rfl)
theorem pd_X8_odds : yX8_odds.cls = RX8 ∧ yX8_odds.cls ≠ "java/lang/invoke/MethodHandle" ∧ yX8_odds.cls ≠ "java/lang/invoke/VarHandle" ∧ (parseMethodDescriptor yX8_odds.desc).map (fun d => d.parameters.length) = some 5 := by decide +kernel
abbrev rmX8_odds : Room := { frames := 3, cells := 0, slots := 0, locals := 73 }
set_option maxHeartbeats 4000000 in
set_option maxRecDepth 100000 in
theorem c_X8_odds (l : Launch) (G : CX) (hq0 : Nat) (hx0 : Nat) (hr0 : Nat) (hb0 : Nat) (hy0 : Nat) (hp0 : Nat) (hn0 : Nat) (hw0 : Nat) (hh0 : Nat) (aim : Nat) (aik : Nat) (tr : Int64) (aw : Nat) (wy : Int) (se : Int) (tu : Int) (al : Nat) (S : Int) (C : Int) (Wy : Int) (Li : Int) (St : Int) (t : Int) (x : Int) (n : Int) (w : Int) (what : Int) (hB : (2 ≤ S ∧ S ≤ 6) ∧ (C = 1 ∧ Wy = S ∨ C = 2 ∧ Wy = 2 * S)) (hwy : 0 ≤ wy ∧ wy < Wy) (hr_t : -2147483648 ≤ t ∧ t < 2147483648) (hr_x : -2147483648 ≤ x ∧ x < 2147483648) (hr_n : -2147483648 ≤ n ∧ n < 2147483648) (hr_w : -2147483648 ≤ w ∧ w < 2147483648) (hr_what : -2147483648 ≤ what ∧ what < 2147483648) : Met l yX8_odds wsX8_odds rmX8_odds (rdP G [.ref hq0, .int (zI t), .int (zI x), .int (zI n), .int (zI w), .int (zI what)] [(hq0, .inr (8, [.ref hx0, .ref hr0, .ref hb0, .ref hy0, .ref hp0, .ref hn0, .ref hw0, .ref hh0, .ref aim, .ref aik, .long tr])), (hy0, .inr (2, [.int (zI wy), .int (zI se), .int (zI tu), .ref aw])), (hb0, .inr (0, [.int (zI S), .int (zI C), .int (zI Wy), .int (zI Li), .int (zI St), .ref al]))]) (rdQ (zI (if ¬ ((0 ≤ t ∧ t < Wy) ∧ (0 ≤ w ∧ w < Wy) ∧ (0 ≤ x ∧ x ≤ 10) ∧ (0 ≤ n ∧ n ≤ 6) ∧ (what = 0 ∨ what = 1)) then -1 else (if what = 0 then chZ n x (fun k => wyI S t wy k = w)  (n + 1).toNat else pwZ 10 n.toNat) / gcG 64 (chZ n x (fun k => wyI S t wy k = w)  (n + 1).toNat) (pwZ 10 n.toNat)))) 0 0 noA := by
  refine rd_ofW (cc := cX8_odds) (maxL := 9) (ty := .int) (by decide) rfl (Nat.le_of_ble_eq_true rfl) rfl ?_
  intro p e s m below meth c Q A hx hb hml hown hts hK hret H locs hP hS ls hl
  have hown : s.vm.findClass RX8 = some m.cls := hown
  have hl : lv_has ls 9 [(0, .ref hq0), (1, .int (zI t)), (2, .int (zI x)), (3, .int (zI n)), (4, .int (zI w)), (5, .int (zI what))] := hl
  have f28 := hts (.fieldLink RX8 28 "QuarterTurns" "bed" "LQuarterTurns$Bed;") (by decide +kernel)
  have i8 : ∀ w ∈ wsX80, w ∈ wsX8_odds := fun w h => List.mem_cons_of_mem _ (List.mem_append_left _ (List.mem_append_left _ (List.mem_append_right _ h)))
  refine lv_aload_n hx hb dX8_odds_0 rfl (lv_at hl 0 rfl) ?_
  refine va_get (ci := 8) (v := .ref hb0) (C := RX8) (T := TX8) (N := 11) hx hb hts i8 hown hK hP 0 rfl rfl 2 (by decide) f28 (fun _ h9 => h9) rfl dX8_odds_1 ?_
  refine lv_iload_n hx hb dX8_odds_4 rfl (lv_at hl 1 rfl) ?_
  refine z_cV (As := [.int (zI t)]) (rest := []) ⟨hx, hb, hml, hown, hts⟩ (c_X0_has l G hb0 al S C Wy Li St t (by first | assumption | omega) (by first | assumption | omega)) (cwV 1 hts gX8_odds_X0_has rfl rfl rfl pd_X0_has ⟨(Nat.le_of_ble_eq_true rfl), (Nat.le_of_ble_eq_true rfl)⟩) hK hP hS [2] rfl rfl rfl rfl rfl hl.1 rfl (Nat.le_of_ble_eq_true rfl) dX8_odds_5 ⟨Nat.zero_le _, Nat.zero_le _⟩ (fun H locs hP hS => ?_)
  refine z_ifeq_b (tgt := 43) hx hb dX8_odds_8 (by decide) (fun c_1 => ?_) (fun c_1 => ?_)
  · refine lv_iconst (v := zI (-1)) hx hb dX8_odds_43 rfl ?_
    exact hret H locs ls 44 _ (congrArg zI (by rw [if_pos (by omega)])) hS dX8_odds_44
  · refine lv_aload_n hx hb dX8_odds_11 rfl (lv_at hl 0 rfl) ?_
    refine va_get (ci := 8) (v := .ref hb0) (C := RX8) (T := TX8) (N := 11) hx hb hts i8 hown hK hP 0 rfl rfl 2 (by decide) f28 (fun _ h9 => h9) rfl dX8_odds_12 ?_
    refine lv_iload hx hb dX8_odds_15 (lv_at hl 4 rfl) ?_
    refine z_cV (As := [.int (zI w)]) (rest := []) ⟨hx, hb, hml, hown, hts⟩ (c_X0_has l G hb0 al S C Wy Li St w (by first | assumption | omega) (by first | assumption | omega)) (cwV 1 hts gX8_odds_X0_has rfl rfl rfl pd_X0_has ⟨(Nat.le_of_ble_eq_true rfl), (Nat.le_of_ble_eq_true rfl)⟩) hK hP hS [2] rfl rfl rfl rfl rfl hl.1 rfl (Nat.le_of_ble_eq_true rfl) dX8_odds_17 ⟨Nat.zero_le _, Nat.zero_le _⟩ (fun H locs hP hS => ?_)
    refine z_ifeq_b (tgt := 43) hx hb dX8_odds_20 (by decide) (fun c_2 => ?_) (fun c_2 => ?_)
    · refine lv_iconst (v := zI (-1)) hx hb dX8_odds_43 rfl ?_
      exact hret H locs ls 44 _ (congrArg zI (by rw [if_pos (by omega)])) hS dX8_odds_44
    · refine lv_iload_n hx hb dX8_odds_23 rfl (lv_at hl 2 rfl) ?_
      refine z_if_lt (tgt := 43) hx hb (by omega) dX8_odds_24 (by decide) (fun c_3 => ?_) (fun c_3 => ?_)
      · refine lv_iconst (v := zI (-1)) hx hb dX8_odds_43 rfl ?_
        exact hret H locs ls 44 _ (congrArg zI (by rw [if_pos (by omega)])) hS dX8_odds_44
      · refine lv_iload_n hx hb dX8_odds_27 rfl (lv_at hl 2 rfl) ?_
        refine lv_bipush (v := zI 10) hx hb dX8_odds_28 (by decide) ?_
        refine z_icmp_gt (tgt := 43) hx hb (by omega) dX8_odds_30 (by decide) (fun c_4 => ?_) (fun c_4 => ?_)
        · refine lv_iconst (v := zI (-1)) hx hb dX8_odds_43 rfl ?_
          exact hret H locs ls 44 _ (congrArg zI (by rw [if_pos (by omega)])) hS dX8_odds_44
        · refine lv_iload_n hx hb dX8_odds_33 rfl (lv_at hl 3 rfl) ?_
          refine z_if_lt (tgt := 43) hx hb (by omega) dX8_odds_34 (by decide) (fun c_5 => ?_) (fun c_5 => ?_)
          · refine lv_iconst (v := zI (-1)) hx hb dX8_odds_43 rfl ?_
            exact hret H locs ls 44 _ (congrArg zI (by rw [if_pos (by omega)])) hS dX8_odds_44
          · refine lv_iload_n hx hb dX8_odds_37 rfl (lv_at hl 3 rfl) ?_
            refine lv_bipush (v := zI 6) hx hb dX8_odds_38 (by decide) ?_
            refine z_icmp_le (tgt := 45) hx hb (by omega) dX8_odds_40 (by decide) (fun c_6 => ?_) (fun c_6 => ?_)
            · refine lv_iload hx hb dX8_odds_45 (lv_at hl 5 rfl) ?_
              refine z_if_eq (tgt := 58) hx hb (by omega) dX8_odds_47 (by decide) (fun c_7 => ?_) (fun c_7 => ?_)
              · refine lv_aload_n hx hb dX8_odds_58 rfl (lv_at hl 0 rfl) ?_
                refine lv_iload_n hx hb dX8_odds_59 rfl (lv_at hl 1 rfl) ?_
                refine lv_iload_n hx hb dX8_odds_60 rfl (lv_at hl 2 rfl) ?_
                refine lv_iload_n hx hb dX8_odds_61 rfl (lv_at hl 3 rfl) ?_
                refine lv_iload hx hb dX8_odds_62 (lv_at hl 4 rfl) ?_
                refine z_cV (As := [.int (zI t), .int (zI x), .int (zI n), .int (zI w)]) (rest := []) ⟨hx, hb, hml, hown, hts⟩ (c_X8_chances l G hq0 hx0 hr0 hb0 hy0 hp0 hn0 hw0 hh0 aim aik tr aw wy se tu al S C Wy Li St t x n w (by first | assumption | omega) (by first | assumption | omega) (by first | assumption | omega) (by first | assumption | omega) (by first | assumption | omega) (by first | assumption | omega)) (cwV 4 hts gX8_odds_X8_chances rfl rfl rfl pd_X8_chances ⟨(Nat.le_of_ble_eq_true rfl), (Nat.le_of_ble_eq_true rfl)⟩) hK hP hS [0, 1, 2] rfl rfl rfl rfl rfl hl.1 rfl (Nat.le_of_ble_eq_true rfl) dX8_odds_64 ⟨Nat.zero_le _, Nat.zero_le _⟩ (fun H locs hP hS => ?_)
                have hq_8 := chZ_rng (n := n) (x := x) (sel := fun k => wyI S t wy k = w) (by omega) (by omega)
                refine lv_istore (lv' := [(6, .int (zI (chZ n x (fun k => wyI S t wy k = w)  (n + 1).toNat))), (0, .ref hq0), (1, .int (zI t)), (2, .int (zI x)), (3, .int (zI n)), (4, .int (zI w)), (5, .int (zI what))]) hx hb dX8_odds_67 hl (by decide) rfl (fun ls hl => ?_)
                refine lv_bipush (v := zI 10) hx hb dX8_odds_69 (by decide) ?_
                refine lv_iload_n hx hb dX8_odds_71 rfl (lv_at hl 4 rfl) ?_
                refine z_cS (As := [.int (zI 10), .int (zI n)]) (rest := []) ⟨hx, hb, hml, hown, hts⟩ (c_X8_power l G 10 n (by first | assumption | omega)) (va_cwS 2 hts gX8_odds_X8_power rfl rfl rfl pd_X8_power.2 ⟨(Nat.le_of_ble_eq_true rfl), (Nat.le_of_ble_eq_true rfl)⟩) hK hP hS [] rfl rfl hl.1 rfl (Nat.le_of_ble_eq_true rfl) dX8_odds_72 ⟨Nat.zero_le _, Nat.zero_le _⟩ (fun H locs hP hS => ?_)
                refine lv_istore (lv' := [(7, .int (zI (pwZ 10 n.toNat))), (6, .int (zI (chZ n x (fun k => wyI S t wy k = w)  (n + 1).toNat))), (0, .ref hq0), (1, .int (zI t)), (2, .int (zI x)), (3, .int (zI n)), (4, .int (zI w)), (5, .int (zI what))]) hx hb dX8_odds_75 hl (by decide) rfl (fun ls hl => ?_)
                have hp10 := pw10_rng (n := n) (by omega)
                refine lv_iload hx hb dX8_odds_77 (lv_at hl 1 rfl) ?_
                refine lv_iload hx hb dX8_odds_79 (lv_at hl 0 rfl) ?_
                refine z_cS (As := [.int (zI (chZ n x (fun k => wyI S t wy k = w)  (n + 1).toNat)), .int (zI (pwZ 10 n.toNat))]) (rest := []) ⟨hx, hb, hml, hown, hts⟩ (c_X8_commonDivisor l G (chZ n x (fun k => wyI S t wy k = w)  (n + 1).toNat) (pwZ 10 n.toNat) (by first | assumption | omega)) (va_cwS 2 hts gX8_odds_X8_commonDivisor rfl rfl rfl pd_X8_commonDivisor.2 ⟨(Nat.le_of_ble_eq_true rfl), (Nat.le_of_ble_eq_true rfl)⟩) hK hP hS [] rfl rfl hl.1 rfl (Nat.le_of_ble_eq_true rfl) dX8_odds_81 ⟨Nat.zero_le _, Nat.zero_le _⟩ (fun H locs hP hS => ?_)
                have hq_9 := gcG64 (a := (chZ n x (fun k => wyI S t wy k = w)  (n + 1).toNat)) (b := (pwZ 10 n.toNat)) (by omega) (by omega)
                refine lv_istore (lv' := [(8, .int (zI (gcG 64 (chZ n x (fun k => wyI S t wy k = w)  (n + 1).toNat) (pwZ 10 n.toNat)))), (7, .int (zI (pwZ 10 n.toNat))), (6, .int (zI (chZ n x (fun k => wyI S t wy k = w)  (n + 1).toNat))), (0, .ref hq0), (1, .int (zI t)), (2, .int (zI x)), (3, .int (zI n)), (4, .int (zI w)), (5, .int (zI what))]) hx hb dX8_odds_84 hl (by decide) rfl (fun ls hl => ?_)
                refine lv_iload hx hb dX8_odds_86 (lv_at hl 0 rfl) ?_
                refine lv_iconst (v := zI 1) hx hb dX8_odds_88 rfl ?_
                refine z_icmp_ge (tgt := 94) hx hb (by omega) dX8_odds_89 (by decide) (fun c_10 => ?_) (fun c_10 => ?_)
                · refine lv_iload hx hb dX8_odds_94 (lv_at hl 8 rfl) ?_
                  refine z_if_ne (tgt := 104) hx hb (by omega) dX8_odds_96 (by decide) (fun c_11 => ?_) (fun c_11 => ?_)
                  · refine lv_iload hx hb dX8_odds_104 (lv_at hl 1 rfl) ?_
                    refine lv_iload hx hb dX8_odds_106 (lv_at hl 0 rfl) ?_
                    refine z_idiv hx hb (by omega) dX8_odds_108 ?_
                    exact hret H locs ls 109 _ (congrArg zI (by first | (exfalso; omega) | (rw [if_neg (by omega)]; first | rw [if_pos (by omega)] | rw [if_neg (by omega)]))) hS dX8_odds_109
                  · refine lv_iload hx hb dX8_odds_99 (lv_at hl 2 rfl) ?_
                    refine lv_goto (tgt := 106) hx hb dX8_odds_101 (by decide) ?_
                    refine lv_iload hx hb dX8_odds_106 (lv_at hl 0 rfl) ?_
                    refine z_idiv hx hb (by omega) dX8_odds_108 ?_
                    exact hret H locs ls 109 _ (congrArg zI (by first | (exfalso; omega) | (rw [if_neg (by omega)]; first | rw [if_pos (by omega)] | rw [if_neg (by omega)]))) hS dX8_odds_109
                · exact absurd c_10 (by omega)
              · refine lv_iload hx hb dX8_odds_50 (lv_at hl 5 rfl) ?_
                refine lv_iconst (v := zI 1) hx hb dX8_odds_52 rfl ?_
                refine z_icmp_eq (tgt := 58) hx hb (by omega) dX8_odds_53 (by decide) (fun c_12 => ?_) (fun c_12 => ?_)
                · refine lv_aload_n hx hb dX8_odds_58 rfl (lv_at hl 0 rfl) ?_
                  refine lv_iload_n hx hb dX8_odds_59 rfl (lv_at hl 1 rfl) ?_
                  refine lv_iload_n hx hb dX8_odds_60 rfl (lv_at hl 2 rfl) ?_
                  refine lv_iload_n hx hb dX8_odds_61 rfl (lv_at hl 3 rfl) ?_
                  refine lv_iload hx hb dX8_odds_62 (lv_at hl 4 rfl) ?_
                  refine z_cV (As := [.int (zI t), .int (zI x), .int (zI n), .int (zI w)]) (rest := []) ⟨hx, hb, hml, hown, hts⟩ (c_X8_chances l G hq0 hx0 hr0 hb0 hy0 hp0 hn0 hw0 hh0 aim aik tr aw wy se tu al S C Wy Li St t x n w (by first | assumption | omega) (by first | assumption | omega) (by first | assumption | omega) (by first | assumption | omega) (by first | assumption | omega) (by first | assumption | omega)) (cwV 4 hts gX8_odds_X8_chances rfl rfl rfl pd_X8_chances ⟨(Nat.le_of_ble_eq_true rfl), (Nat.le_of_ble_eq_true rfl)⟩) hK hP hS [0, 1, 2] rfl rfl rfl rfl rfl hl.1 rfl (Nat.le_of_ble_eq_true rfl) dX8_odds_64 ⟨Nat.zero_le _, Nat.zero_le _⟩ (fun H locs hP hS => ?_)
                  have hq_13 := chZ_rng (n := n) (x := x) (sel := fun k => wyI S t wy k = w) (by omega) (by omega)
                  refine lv_istore (lv' := [(6, .int (zI (chZ n x (fun k => wyI S t wy k = w)  (n + 1).toNat))), (0, .ref hq0), (1, .int (zI t)), (2, .int (zI x)), (3, .int (zI n)), (4, .int (zI w)), (5, .int (zI what))]) hx hb dX8_odds_67 hl (by decide) rfl (fun ls hl => ?_)
                  refine lv_bipush (v := zI 10) hx hb dX8_odds_69 (by decide) ?_
                  refine lv_iload_n hx hb dX8_odds_71 rfl (lv_at hl 4 rfl) ?_
                  refine z_cS (As := [.int (zI 10), .int (zI n)]) (rest := []) ⟨hx, hb, hml, hown, hts⟩ (c_X8_power l G 10 n (by first | assumption | omega)) (va_cwS 2 hts gX8_odds_X8_power rfl rfl rfl pd_X8_power.2 ⟨(Nat.le_of_ble_eq_true rfl), (Nat.le_of_ble_eq_true rfl)⟩) hK hP hS [] rfl rfl hl.1 rfl (Nat.le_of_ble_eq_true rfl) dX8_odds_72 ⟨Nat.zero_le _, Nat.zero_le _⟩ (fun H locs hP hS => ?_)
                  refine lv_istore (lv' := [(7, .int (zI (pwZ 10 n.toNat))), (6, .int (zI (chZ n x (fun k => wyI S t wy k = w)  (n + 1).toNat))), (0, .ref hq0), (1, .int (zI t)), (2, .int (zI x)), (3, .int (zI n)), (4, .int (zI w)), (5, .int (zI what))]) hx hb dX8_odds_75 hl (by decide) rfl (fun ls hl => ?_)
                  have hp10 := pw10_rng (n := n) (by omega)
                  refine lv_iload hx hb dX8_odds_77 (lv_at hl 1 rfl) ?_
                  refine lv_iload hx hb dX8_odds_79 (lv_at hl 0 rfl) ?_
                  refine z_cS (As := [.int (zI (chZ n x (fun k => wyI S t wy k = w)  (n + 1).toNat)), .int (zI (pwZ 10 n.toNat))]) (rest := []) ⟨hx, hb, hml, hown, hts⟩ (c_X8_commonDivisor l G (chZ n x (fun k => wyI S t wy k = w)  (n + 1).toNat) (pwZ 10 n.toNat) (by first | assumption | omega)) (va_cwS 2 hts gX8_odds_X8_commonDivisor rfl rfl rfl pd_X8_commonDivisor.2 ⟨(Nat.le_of_ble_eq_true rfl), (Nat.le_of_ble_eq_true rfl)⟩) hK hP hS [] rfl rfl hl.1 rfl (Nat.le_of_ble_eq_true rfl) dX8_odds_81 ⟨Nat.zero_le _, Nat.zero_le _⟩ (fun H locs hP hS => ?_)
                  have hq_14 := gcG64 (a := (chZ n x (fun k => wyI S t wy k = w)  (n + 1).toNat)) (b := (pwZ 10 n.toNat)) (by omega) (by omega)
                  refine lv_istore (lv' := [(8, .int (zI (gcG 64 (chZ n x (fun k => wyI S t wy k = w)  (n + 1).toNat) (pwZ 10 n.toNat)))), (7, .int (zI (pwZ 10 n.toNat))), (6, .int (zI (chZ n x (fun k => wyI S t wy k = w)  (n + 1).toNat))), (0, .ref hq0), (1, .int (zI t)), (2, .int (zI x)), (3, .int (zI n)), (4, .int (zI w)), (5, .int (zI what))]) hx hb dX8_odds_84 hl (by decide) rfl (fun ls hl => ?_)
                  refine lv_iload hx hb dX8_odds_86 (lv_at hl 0 rfl) ?_
                  refine lv_iconst (v := zI 1) hx hb dX8_odds_88 rfl ?_
                  refine z_icmp_ge (tgt := 94) hx hb (by omega) dX8_odds_89 (by decide) (fun c_15 => ?_) (fun c_15 => ?_)
                  · refine lv_iload hx hb dX8_odds_94 (lv_at hl 8 rfl) ?_
                    refine z_if_ne (tgt := 104) hx hb (by omega) dX8_odds_96 (by decide) (fun c_16 => ?_) (fun c_16 => ?_)
                    · refine lv_iload hx hb dX8_odds_104 (lv_at hl 1 rfl) ?_
                      refine lv_iload hx hb dX8_odds_106 (lv_at hl 0 rfl) ?_
                      refine z_idiv hx hb (by omega) dX8_odds_108 ?_
                      exact hret H locs ls 109 _ (congrArg zI (by first | (exfalso; omega) | (rw [if_neg (by omega)]; first | rw [if_pos (by omega)] | rw [if_neg (by omega)]))) hS dX8_odds_109
                    · refine lv_iload hx hb dX8_odds_99 (lv_at hl 2 rfl) ?_
                      refine lv_goto (tgt := 106) hx hb dX8_odds_101 (by decide) ?_
                      refine lv_iload hx hb dX8_odds_106 (lv_at hl 0 rfl) ?_
                      refine z_idiv hx hb (by omega) dX8_odds_108 ?_
                      exact hret H locs ls 109 _ (congrArg zI (by first | (exfalso; omega) | (rw [if_neg (by omega)]; first | rw [if_pos (by omega)] | rw [if_neg (by omega)]))) hS dX8_odds_109
                  · exact absurd c_15 (by omega)
                · refine lv_iconst (v := zI (-1)) hx hb dX8_odds_56 rfl ?_
                  exact hret H locs ls 57 _ (congrArg zI (by rw [if_pos (by omega)])) hS dX8_odds_57
            · refine lv_iconst (v := zI (-1)) hx hb dX8_odds_43 rfl ?_
              exact hret H locs ls 44 _ (congrArg zI (by rw [if_pos (by omega)])) hS dX8_odds_44
