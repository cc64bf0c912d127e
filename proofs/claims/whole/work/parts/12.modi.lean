
def wkI (wn hf : Int → Int) (k : Int) : Nat → Bool
  | 0 => true
  | i + 1 => wkI wn hf k i && decide (¬ hf (3 * (i : Int)) = k ∨ wn (hf (3 * (i : Int) + 1)) = hf (3 * (i : Int) + 2))
def wkK (S t home : Int) (ld wn hf : Int → Int) (hz : Nat) : Nat → Bool
  | 0 => true
  | k + 1 => wkK S t home ld wn hf hz k && wkI (lsW S t home ld wn k) hf (k : Int) hz
def whM (S home : Int) (ld wn hf : Int → Int) (hz : Nat) : Nat → Nat
  | 0 => 0
  | t + 1 => if wkK S (t : Int) home ld wn hf hz 41 = true then whM S home ld wn hf hz t ||| 2 ^ t else whM S home ld wn hf hz t
theorem lsW_rng {S t home b : Int} {ld wn : Int → Int} (hld : ∀ i : Int, 0 ≤ i → i < 12 → 1 ≤ ld i ∧ ld i ≤ 9) (hwy : ∀ k : Nat, 0 ≤ wyI S t home k ∧ wyI S t home k < 12) (hwn : ∀ i : Int, 0 ≤ i → i < 12 → 0 ≤ wn i ∧ wn i ≤ b) : ∀ (k : Nat) (i : Int), 0 ≤ i → i < 12 → 0 ≤ lsW S t home ld wn k i ∧ lsW S t home ld wn k i ≤ b + 9 * (k : Int)
  | 0, i, h1, h2 => by
    have h := hwn i h1 h2
    show 0 ≤ wn i ∧ wn i ≤ b + 9 * ((0 : Nat) : Int)
    omega
  | k + 1, i, h1, h2 => by
    have h := lsW_rng hld hwy hwn k i h1 h2
    have hw := hwy (k + 1)
    have h3 := lsW_rng hld hwy hwn k (wyI S t home (k + 1)) hw.1 hw.2
    have h4 := hld (wyI S t home (k + 1)) hw.1 hw.2
    show 0 ≤ uZ _ _ _ i ∧ uZ _ _ _ i ≤ _
    unfold uZ
    split <;> omega
def oaI (S t home : Int) (set : Nat) : Nat → Int
  | 0 => home
  | k + 1 => if set.testBit k = true then oaI S t home set k else fromZ S (oaI S t home set k) t
def owI (x : Int) (set : Nat) : Nat → Int
  | 0 => 1
  | k + 1 => owI x set k * (if set.testBit k = true then x else 10 - x)
def oaS (S t home x w : Int) (n : Nat) : Nat → Int
  | 0 => 0
  | j + 1 => oaS S t home x w n j + (if oaI S t home j n = w then owI x j n else 0)
theorem owI_rng {x : Int} (hx : 0 ≤ x ∧ x ≤ 10) (set : Nat) : ∀ k, 0 ≤ owI x set k ∧ owI x set k ≤ pwZ 10 k
  | 0 => by simp [owI, pwZ]
  | k + 1 => by
    have h := owI_rng hx set k
    unfold owI pwZ
    split
    · exact ⟨Int.mul_nonneg h.1 hx.1, Int.le_trans (Int.mul_le_mul_of_nonneg_right h.2 hx.1) (Int.mul_le_mul_of_nonneg_left hx.2 (by omega))⟩
    · exact ⟨Int.mul_nonneg h.1 (by omega), Int.le_trans (Int.mul_le_mul_of_nonneg_right h.2 (by omega)) (Int.mul_le_mul_of_nonneg_left (by omega) (by omega))⟩
theorem oaS_rng {S t home x w n : Int} (hx : 0 ≤ x ∧ x ≤ 10) (hn : 0 ≤ n ∧ n ≤ 6) : ∀ j : Nat, 0 ≤ oaS S t home x w n.toNat j ∧ oaS S t home x w n.toNat j ≤ 1000000 * (j : Int)
  | 0 => by simp [oaS]
  | j + 1 => by
    have h := oaS_rng (S := S) (t := t) (home := home) (w := w) hx hn j
    have h1 := owI_rng hx j n.toNat
    have h2 := pw10_rng hn
    unfold oaS
    split <;> omega
theorem gcd_st {y z : Int} (hy : 0 ≤ y) (hz : 0 < z) : Nat.gcd z.toNat (y % z).toNat = Nat.gcd y.toNat z.toNat := by
  obtain ⟨a, rfl⟩ := Int.eq_ofNat_of_zero_le hy
  obtain ⟨b, rfl⟩ := Int.eq_ofNat_of_zero_le (Int.le_of_lt hz)
  rw [← Int.natCast_emod, Int.toNat_natCast, Int.toNat_natCast, Int.toNat_natCast, Nat.gcd_comm b (a % b), ← Nat.gcd_rec, Nat.gcd_comm]

theorem pd_X9_which : yX9_which.cls = RX9 ∧ yX9_which.cls ≠ "java/lang/invoke/MethodHandle" ∧ yX9_which.cls ≠ "java/lang/invoke/VarHandle" ∧ (parseMethodDescriptor yX9_which.desc).map (fun d => d.parameters.length) = some 0 := by decide +kernel
abbrev rmX9_which : Room := { frames := 2, cells := 0, slots := 0, locals := 45 }
set_option maxHeartbeats 4000000 in
set_option maxRecDepth 100000 in
theorem c_X9_which (l : Launch) (G : CX) (hm0 : Nat) (S : Int) (C : Int) (Wy : Int) (Li : Int) (ml : Nat) (ms : Nat) (mw : Nat) (kn : Int) (mi : Nat) (mk : Nat) (hz : Int) (mh : Nat) (tr : Int64) (mt : Nat) (tn : Int) (cu : Int) (sa : Int) (to : Int) (nu : Int) (wr : Int) (it : Int) (sS : Int) (sC : Int) (sL : Int) (sW : Int) (mq : Nat) (mn : Nat) (mc : Nat) (mr : Nat) (mb : Nat) (nf : Int → Int) (sf : Int → Int) (ld : Int → Int) (hf : Int → Int) (hB : (2 ≤ S ∧ S ≤ 6) ∧ (C = 1 ∧ Wy = S ∨ C = 2 ∧ Wy = 2 * S)) (hl1 : 0 ≤ sf 1 ∧ sf 1 < Wy) (hs7 : ∀ i : Int, 0 ≤ i → i < 12 → 0 ≤ sf (3 + i) ∧ sf (3 + i) ≤ 107) (hld : ∀ i : Int, 0 ≤ i → i < 12 → 1 ≤ ld i ∧ ld i ≤ 9) (hhz : 0 ≤ hz ∧ hz ≤ 5) (hhf : ∀ i : Int, 0 ≤ i → i < hz → (0 ≤ hf (3 * i) ∧ hf (3 * i) ≤ 40) ∧ (0 ≤ hf (3 * i + 1) ∧ hf (3 * i + 1) < 12) ∧ (0 ≤ hf (3 * i + 2) ∧ hf (3 * i + 2) ≤ 999)) : Met l yX9_which wsX9_which rmX9_which (wrP G [.ref hm0] [(hm0, .inr (9, [.int (zI S), .int (zI C), .int (zI Wy), .int (zI Li), .ref ml, .ref ms, .ref mw, .int (zI kn), .ref mi, .ref mk, .int (zI hz), .ref mh, .long tr, .ref mt, .int (zI tn), .int (zI cu), .int (zI sa), .int (zI to), .int (zI nu), .int (zI wr), .int (zI it), .int (zI sS), .int (zI sC), .int (zI sL), .int (zI sW), .ref mq, .ref mn, .ref mc, .ref mr, .ref mb])), (mn, .inl (G.2.1, 15, .inl (aZ nf))), (ms, .inl (G.2.1, 15, .inl (aZ sf))), (ml, .inl (G.2.1, 12, .inl (aZ ld))), (mh, .inl (G.2.1, 15, .inl (aZ hf)))]) (wrQ G [(hm0, .inr (9, [.int (zI S), .int (zI C), .int (zI Wy), .int (zI Li), .ref ml, .ref ms, .ref mw, .int (zI kn), .ref mi, .ref mk, .int (zI hz), .ref mh, .long tr, .ref mt, .int (zI tn), .int (zI cu), .int (zI sa), .int (zI to), .int (zI nu), .int (zI wr), .int (zI it), .int (zI sS), .int (zI sC), .int (zI sL), .int (zI sW), .ref mq, .ref mn, .ref mc, .ref mr, .ref mb])), (mn, .inl (G.2.1, 15, .inl (aZ nf))), (ms, .inl (G.2.1, 15, .inl (aZ sf))), (ml, .inl (G.2.1, 12, .inl (aZ ld))), (mh, .inl (G.2.1, 15, .inl (aZ hf)))] (fun (r_ : Int32) (u : (Int → Int)) => match u with | nf2 => r_ = zI ((whM S (sf 1) ld (fun i => sf (3 + i)) hf hz.toNat Wy.toNat : Nat) : Int) ∧ (True)) (fun (u : (Int → Int)) => match u with | nf2 => [(hm0, .inr (9, [.int (zI S), .int (zI C), .int (zI Wy), .int (zI Li), .ref ml, .ref ms, .ref mw, .int (zI kn), .ref mi, .ref mk, .int (zI hz), .ref mh, .long tr, .ref mt, .int (zI tn), .int (zI cu), .int (zI sa), .int (zI to), .int (zI nu), .int (zI wr), .int (zI it), .int (zI sS), .int (zI sC), .int (zI sL), .int (zI sW), .ref mq, .ref mn, .ref mc, .ref mr, .ref mb])), (mn, .inl (G.2.1, 15, .inl (aZ nf2))), (ms, .inl (G.2.1, 15, .inl (aZ sf))), (ml, .inl (G.2.1, 12, .inl (aZ ld))), (mh, .inl (G.2.1, 15, .inl (aZ hf)))])) 0 0 (wrA [(hm0, .inr (9, [.int (zI S), .int (zI C), .int (zI Wy), .int (zI Li), .ref ml, .ref ms, .ref mw, .int (zI kn), .ref mi, .ref mk, .int (zI hz), .ref mh, .long tr, .ref mt, .int (zI tn), .int (zI cu), .int (zI sa), .int (zI to), .int (zI nu), .int (zI wr), .int (zI it), .int (zI sS), .int (zI sC), .int (zI sL), .int (zI sW), .ref mq, .ref mn, .ref mc, .ref mr, .ref mb])), (mn, .inl (G.2.1, 15, .inl (aZ nf))), (ms, .inl (G.2.1, 15, .inl (aZ sf))), (ml, .inl (G.2.1, 12, .inl (aZ ld))), (mh, .inl (G.2.1, 15, .inl (aZ hf)))]) := by
  refine wr_ofW (cc := cX9_which) (maxL := 6) (ty := .int) (by decide) rfl (Nat.le_of_ble_eq_true rfl) ?_
  intro p e s m below meth c Q A hx hb hml hown hts hK hret H locs hP hD hS ls hl
  have hown : s.vm.findClass RX9 = some m.cls := hown
  have hl : lv_has ls 6 [(0, .ref hm0)] := hl
  have f16 := hts (.fieldLink RX9 16 "QuarterTurnsModel" "ways" "I") (by decide +kernel)
  have i9 : ∀ w ∈ wsX90, w ∈ wsX9_which := fun w h => List.mem_cons_of_mem _ (List.mem_append_right _ h)
  have f125 := hts (.fieldLink RX9 125 "QuarterTurnsModel" "hollowMany" "I") (by decide +kernel)
  have f39 := hts (.fieldLink RX9 39 "QuarterTurnsModel" "hollow" "[I") (by decide +kernel)
  have f48 := hts (.fieldLink RX9 48 "QuarterTurnsModel" "now" "[I") (by decide +kernel)
  refine lv_iconst (v := zI 0) hx hb dX9_which_0 rfl ?_
  refine lv_istore_n (lv' := [(1, .int (zI 0)), (0, .ref hm0)]) hx hb dX9_which_1 rfl hl (by decide) rfl (fun ls hl => ?_)
  refine lv_iconst (v := zI 0) hx hb dX9_which_2 rfl ?_
  refine lv_istore_n (lv' := [(2, .int (zI 0)), (1, .int (zI 0)), (0, .ref hm0)]) hx hb dX9_which_3 rfl hl (by decide) rfl (fun ls hl => ?_)
  have loop4 : ∀ (n_ : Nat) (t : Int) (bits : Nat) (g0 : Int → Int) (H : Heap) (locs : List Loc) (ls : Array Slot), (0 ≤ t ∧ t ≤ Wy) → (bits = whM S (sf 1) ld (fun i => sf (3 + i)) hf hz.toNat t.toNat) → (Wy - t).toNat < n_ → kP G [(hm0, .inr (9, [.int (zI S), .int (zI C), .int (zI Wy), .int (zI Li), .ref ml, .ref ms, .ref mw, .int (zI kn), .ref mi, .ref mk, .int (zI hz), .ref mh, .long tr, .ref mt, .int (zI tn), .int (zI cu), .int (zI sa), .int (zI to), .int (zI nu), .int (zI wr), .int (zI it), .int (zI sS), .int (zI sC), .int (zI sL), .int (zI sW), .ref mq, .ref mn, .ref mc, .ref mr, .ref mb])), (mn, .inl (G.2.1, 15, .inl (aZ g0))), (ms, .inl (G.2.1, 15, .inl (aZ sf))), (ml, .inl (G.2.1, 12, .inl (aZ ld))), (mh, .inl (G.2.1, 15, .inl (aZ hf)))] H → va_D A [(hm0, .inr (9, [.int (zI S), .int (zI C), .int (zI Wy), .int (zI Li), .ref ml, .ref ms, .ref mw, .int (zI kn), .ref mi, .ref mk, .int (zI hz), .ref mh, .long tr, .ref mt, .int (zI tn), .int (zI cu), .int (zI sa), .int (zI to), .int (zI nu), .int (zI wr), .int (zI it), .int (zI sS), .int (zI sC), .int (zI sL), .int (zI sW), .ref mq, .ref mn, .ref mc, .ref mr, .ref mb])), (mn, .inl (G.2.1, 15, .inl (aZ g0))), (ms, .inl (G.2.1, 15, .inl (aZ sf))), (ml, .inl (G.2.1, 12, .inl (aZ ld))), (mh, .inl (G.2.1, 15, .inl (aZ hf)))] → va_S A s.heap H locs → lv_has ls 6 [(2, .int (zI t)), (1, .int (zI ((bits : Nat) : Int))), (0, .ref hm0)] → W p l e rmX9_which s m ([.ref hm0] : List Value).toArray below meth c H locs 0 0 Q (F0 m 4 ls []) := by
    intro n_
    induction n_ with
    | zero =>
      intro t bits g0 H locs ls ht hbi hm
      exact absurd hm (Nat.not_lt_zero _)
    | succ n_ ih4 =>
      intro t bits g0 H locs ls ht hbi hm4 hP hD hS hl
      refine lv_iload_n hx hb dX9_which_4 rfl (lv_at hl 0 rfl) ?_
      refine lv_aload_n hx hb dX9_which_5 rfl (lv_at hl 2 rfl) ?_
      refine va_get (ci := 9) (v := .int (zI Wy)) (C := RX9) (T := TX9) (N := 30) hx hb hts i9 hown hK hP 0 rfl rfl 2 (by decide) f16 (fun _ h9 => h9) rfl dX9_which_6 ?_
      refine z_icmp_ge (tgt := 138) hx hb (by omega) dX9_which_9 (by decide) (fun c_1 => ?_) (fun c_1 => ?_)
      · refine lv_iload_n hx hb dX9_which_138 rfl (lv_at hl 1 rfl) ?_
        exact hret H locs ls 139 _ (g0) rfl ⟨congrArg zI (by rw [hbi, show t = Wy by omega]), by trivial⟩ hP hS dX9_which_139
      · refine lv_aload_n hx hb dX9_which_12 rfl (lv_at hl 2 rfl) ?_
        refine z_wVv (As := []) (rest := []) ⟨hx, hb, hml, hown, hts⟩ (c_X9_asItIs l G hm0 S C Wy Li ml ms mw kn mi mk hz mh tr mt tn cu sa to nu wr it sS sC sL sW mq mn mc mr mb g0 sf ) (cwV 0 hts gX9_which_X9_asItIs rfl rfl rfl pd_X9_asItIs ⟨(Nat.le_of_ble_eq_true rfl), (Nat.le_of_ble_eq_true rfl)⟩) hK hP hD hS [0, 1, 2] (by decide) rfl rfl rfl rfl (fun _ => Eq.trans (b := [hm0, mn, ms]) rfl rfl) rfl hl.1 rfl (Nat.le_of_ble_eq_true rfl) dX9_which_13 ⟨Nat.zero_le _, Nat.zero_le _⟩ (fun u_ H locs hw_2 hP hD hS => ?_)
        try dsimp only at hw_2
        have hP : kP G [(hm0, .inr (9, [.int (zI S), .int (zI C), .int (zI Wy), .int (zI Li), .ref ml, .ref ms, .ref mw, .int (zI kn), .ref mi, .ref mk, .int (zI hz), .ref mh, .long tr, .ref mt, .int (zI tn), .int (zI cu), .int (zI sa), .int (zI to), .int (zI nu), .int (zI wr), .int (zI it), .int (zI sS), .int (zI sC), .int (zI sL), .int (zI sW), .ref mq, .ref mn, .ref mc, .ref mr, .ref mb])), (mn, .inl (G.2.1, 15, .inl (aZ (cpK g0 0 sf 0 15)))), (ms, .inl (G.2.1, 15, .inl (aZ sf))), (ml, .inl (G.2.1, 12, .inl (aZ ld))), (mh, .inl (G.2.1, 15, .inl (aZ hf)))] H := hP
        have hD : va_D A [(hm0, .inr (9, [.int (zI S), .int (zI C), .int (zI Wy), .int (zI Li), .ref ml, .ref ms, .ref mw, .int (zI kn), .ref mi, .ref mk, .int (zI hz), .ref mh, .long tr, .ref mt, .int (zI tn), .int (zI cu), .int (zI sa), .int (zI to), .int (zI nu), .int (zI wr), .int (zI it), .int (zI sS), .int (zI sC), .int (zI sL), .int (zI sW), .ref mq, .ref mn, .ref mc, .ref mr, .ref mb])), (mn, .inl (G.2.1, 15, .inl (aZ (cpK g0 0 sf 0 15)))), (ms, .inl (G.2.1, 15, .inl (aZ sf))), (ml, .inl (G.2.1, 12, .inl (aZ ld))), (mh, .inl (G.2.1, 15, .inl (aZ hf)))] := hD
        refine lv_iconst (v := zI 1) hx hb dX9_which_16 rfl ?_
        refine lv_istore_n (lv' := [(3, .int (zI 1)), (2, .int (zI t)), (1, .int (zI ((bits : Nat) : Int))), (0, .ref hm0)]) hx hb dX9_which_17 rfl hl (by decide) rfl (fun ls hl => ?_)
        refine lv_iconst (v := zI 0) hx hb dX9_which_18 rfl ?_
        refine lv_istore (lv' := [(4, .int (zI 0)), (3, .int (zI 1)), (2, .int (zI t)), (1, .int (zI ((bits : Nat) : Int))), (0, .ref hm0)]) hx hb dX9_which_19 hl (by decide) rfl (fun ls hl => ?_)
        have loop21 : ∀ (n_ : Nat) (k : Int) (sm : Int) (g : Int → Int) (H : Heap) (locs : List Loc) (ls : Array Slot), (0 ≤ k ∧ k ≤ 41) → (stA S t (sf 1) ld (fun i => sf (3 + i)) k.toNat g) → ((sm = 1 ∧ wkK S t (sf 1) ld (fun i => sf (3 + i)) hf hz.toNat k.toNat = true) ∨ (sm = 0 ∧ ¬ wkK S t (sf 1) ld (fun i => sf (3 + i)) hf hz.toNat k.toNat = true)) → (41 - k).toNat < n_ → kP G [(hm0, .inr (9, [.int (zI S), .int (zI C), .int (zI Wy), .int (zI Li), .ref ml, .ref ms, .ref mw, .int (zI kn), .ref mi, .ref mk, .int (zI hz), .ref mh, .long tr, .ref mt, .int (zI tn), .int (zI cu), .int (zI sa), .int (zI to), .int (zI nu), .int (zI wr), .int (zI it), .int (zI sS), .int (zI sC), .int (zI sL), .int (zI sW), .ref mq, .ref mn, .ref mc, .ref mr, .ref mb])), (mn, .inl (G.2.1, 15, .inl (aZ g))), (ms, .inl (G.2.1, 15, .inl (aZ sf))), (ml, .inl (G.2.1, 12, .inl (aZ ld))), (mh, .inl (G.2.1, 15, .inl (aZ hf)))] H → va_D A [(hm0, .inr (9, [.int (zI S), .int (zI C), .int (zI Wy), .int (zI Li), .ref ml, .ref ms, .ref mw, .int (zI kn), .ref mi, .ref mk, .int (zI hz), .ref mh, .long tr, .ref mt, .int (zI tn), .int (zI cu), .int (zI sa), .int (zI to), .int (zI nu), .int (zI wr), .int (zI it), .int (zI sS), .int (zI sC), .int (zI sL), .int (zI sW), .ref mq, .ref mn, .ref mc, .ref mr, .ref mb])), (mn, .inl (G.2.1, 15, .inl (aZ g))), (ms, .inl (G.2.1, 15, .inl (aZ sf))), (ml, .inl (G.2.1, 12, .inl (aZ ld))), (mh, .inl (G.2.1, 15, .inl (aZ hf)))] → va_S A s.heap H locs → lv_has ls 6 [(4, .int (zI k)), (3, .int (zI sm)), (2, .int (zI t)), (1, .int (zI ((bits : Nat) : Int))), (0, .ref hm0)] → W p l e rmX9_which s m ([.ref hm0] : List Value).toArray below meth c H locs 0 0 Q (F0 m 21 ls []) := by
          intro n_
          induction n_ with
          | zero =>
            intro k sm g H locs ls hk hst hsm hm
            exact absurd hm (Nat.not_lt_zero _)
          | succ n_ ih21 =>
            intro k sm g H locs ls hk hst hsm hm21 hP hD hS hl
            have hg1 : 0 ≤ g 1 ∧ g 1 < Wy := by rw [hst.1]; exact wyI_rng hB hl1 (by omega) _
            have hgr : ∀ i : Int, 0 ≤ i → i < 12 → 0 ≤ g (3 + i) ∧ g (3 + i) ≤ 900 := fun i h1 h2 => by rw [hst.2 i h1 h2]; have h9 := lsW_rng (S := S) (t := t) (home := sf 1) (b := 107) (wn := fun i => sf (3 + i)) hld (fun k => by have := wyI_rng (t := t) hB hl1 (by omega) k; omega) hs7 k.toNat i h1 h2; omega
            have hfr := fromZ_rng (t := t) hB hg1 (by omega)
            refine lv_iload hx hb dX9_which_21 (lv_at hl 0 rfl) ?_
            refine lv_bipush (v := zI 40) hx hb dX9_which_23 (by decide) ?_
            refine z_icmp_gt (tgt := 118) hx hb (by omega) dX9_which_25 (by decide) (fun c_3 => ?_) (fun c_3 => ?_)
            · refine lv_iload_n hx hb dX9_which_118 rfl (lv_at hl 3 rfl) ?_
              refine lv_iload_n hx hb dX9_which_119 rfl (lv_at hl 1 rfl) ?_
              refine z_if_eq (tgt := 129) hx hb (by omega) dX9_which_120 (by decide) (fun c_4 => ?_) (fun c_4 => ?_)
              · refine lv_iconst (v := zI 0) hx hb dX9_which_129 rfl ?_
                refine z_ior (a := bits) (b := 0) hx hb dX9_which_130 ?_
                refine lv_istore_n (lv' := [(1, .int (zI ((bits ||| 0 : Nat) : Int))), (4, .int (zI k)), (3, .int (zI sm)), (2, .int (zI t)), (0, .ref hm0)]) hx hb dX9_which_131 rfl hl (by decide) rfl (fun ls hl => ?_)
                refine lv_iinc (v := zI (t + 1)) (lv' := [(2, .int (zI (t + 1))), (1, .int (zI ((bits ||| 0 : Nat) : Int))), (4, .int (zI k)), (3, .int (zI sm)), (0, .ref hm0)]) hx hb dX9_which_132 hl (k := 3) rfl (zI_add _ _) (by decide) rfl (fun ls hl => ?_)
                refine lv_goto (tgt := 4) hx hb dX9_which_135 (by decide) ?_
                exact ih4 (t + 1) (bits ||| 0) g H locs ls (by omega) (by rw [tn1 ht.1, whM, Int.toNat_of_nonneg ht.1, ← hbi]; rw [show k.toNat = 41 by omega] at hsm; rcases hsm with ⟨h8, h9⟩ | ⟨h8, h9⟩ <;> first | (exfalso; omega) | (rw [if_pos h9]; done) | (rw [if_neg h9, Nat.or_zero]; done)) (by omega) hP hD hS (lv_sub hl [0, 1, 4] rfl)
              · refine lv_iconst (v := zI 1) hx hb dX9_which_123 rfl ?_
                refine lv_iload_n hx hb dX9_which_124 rfl (lv_at hl 2 rfl) ?_
                refine z_shl1 hx hb (by omega) dX9_which_125 ?_
                refine lv_goto (tgt := 130) hx hb dX9_which_126 (by decide) ?_
                refine z_ior (a := bits) (b := (2 ^ t.toNat)) hx hb dX9_which_130 ?_
                refine lv_istore_n (lv' := [(1, .int (zI ((bits ||| (2 ^ t.toNat) : Nat) : Int))), (4, .int (zI k)), (3, .int (zI sm)), (2, .int (zI t)), (0, .ref hm0)]) hx hb dX9_which_131 rfl hl (by decide) rfl (fun ls hl => ?_)
                refine lv_iinc (v := zI (t + 1)) (lv' := [(2, .int (zI (t + 1))), (1, .int (zI ((bits ||| (2 ^ t.toNat) : Nat) : Int))), (4, .int (zI k)), (3, .int (zI sm)), (0, .ref hm0)]) hx hb dX9_which_132 hl (k := 3) rfl (zI_add _ _) (by decide) rfl (fun ls hl => ?_)
                refine lv_goto (tgt := 4) hx hb dX9_which_135 (by decide) ?_
                exact ih4 (t + 1) (bits ||| (2 ^ t.toNat)) g H locs ls (by omega) (by rw [tn1 ht.1, whM, Int.toNat_of_nonneg ht.1, ← hbi]; rw [show k.toNat = 41 by omega] at hsm; rcases hsm with ⟨h8, h9⟩ | ⟨h8, h9⟩ <;> first | (exfalso; omega) | (rw [if_pos h9]; done) | (rw [if_neg h9, Nat.or_zero]; done)) (by omega) hP hD hS (lv_sub hl [0, 1, 4] rfl)
            · refine lv_iconst (v := zI 0) hx hb dX9_which_28 rfl ?_
              refine lv_istore (lv' := [(5, .int (zI 0)), (4, .int (zI k)), (3, .int (zI sm)), (2, .int (zI t)), (1, .int (zI ((bits : Nat) : Int))), (0, .ref hm0)]) hx hb dX9_which_29 hl (by decide) rfl (fun ls hl => ?_)
              have loop31 : ∀ (n_ : Nat) (i : Int) (sm2 : Int) (H : Heap) (locs : List Loc) (ls : Array Slot), (0 ≤ i ∧ i ≤ hz) → ((sm2 = 1 ∧ (wkK S t (sf 1) ld (fun i => sf (3 + i)) hf hz.toNat k.toNat && wkI (lsW S t (sf 1) ld (fun i => sf (3 + i)) k.toNat) hf k i.toNat) = true) ∨ (sm2 = 0 ∧ ¬ (wkK S t (sf 1) ld (fun i => sf (3 + i)) hf hz.toNat k.toNat && wkI (lsW S t (sf 1) ld (fun i => sf (3 + i)) k.toNat) hf k i.toNat) = true)) → (hz - i).toNat < n_ → kP G [(hm0, .inr (9, [.int (zI S), .int (zI C), .int (zI Wy), .int (zI Li), .ref ml, .ref ms, .ref mw, .int (zI kn), .ref mi, .ref mk, .int (zI hz), .ref mh, .long tr, .ref mt, .int (zI tn), .int (zI cu), .int (zI sa), .int (zI to), .int (zI nu), .int (zI wr), .int (zI it), .int (zI sS), .int (zI sC), .int (zI sL), .int (zI sW), .ref mq, .ref mn, .ref mc, .ref mr, .ref mb])), (mn, .inl (G.2.1, 15, .inl (aZ g))), (ms, .inl (G.2.1, 15, .inl (aZ sf))), (ml, .inl (G.2.1, 12, .inl (aZ ld))), (mh, .inl (G.2.1, 15, .inl (aZ hf)))] H → va_D A [(hm0, .inr (9, [.int (zI S), .int (zI C), .int (zI Wy), .int (zI Li), .ref ml, .ref ms, .ref mw, .int (zI kn), .ref mi, .ref mk, .int (zI hz), .ref mh, .long tr, .ref mt, .int (zI tn), .int (zI cu), .int (zI sa), .int (zI to), .int (zI nu), .int (zI wr), .int (zI it), .int (zI sS), .int (zI sC), .int (zI sL), .int (zI sW), .ref mq, .ref mn, .ref mc, .ref mr, .ref mb])), (mn, .inl (G.2.1, 15, .inl (aZ g))), (ms, .inl (G.2.1, 15, .inl (aZ sf))), (ml, .inl (G.2.1, 12, .inl (aZ ld))), (mh, .inl (G.2.1, 15, .inl (aZ hf)))] → va_S A s.heap H locs → lv_has ls 6 [(5, .int (zI i)), (4, .int (zI k)), (3, .int (zI sm2)), (2, .int (zI t)), (1, .int (zI ((bits : Nat) : Int))), (0, .ref hm0)] → W p l e rmX9_which s m ([.ref hm0] : List Value).toArray below meth c H locs 0 0 Q (F0 m 31 ls []) := by
                intro n_
                induction n_ with
                | zero =>
                  intro i sm2 H locs ls hi hsm2 hm
                  exact absurd hm (Nat.not_lt_zero _)
                | succ n_ ih31 =>
                  intro i sm2 H locs ls hi hsm2 hm31 hP hD hS hl
                  refine lv_iload hx hb dX9_which_31 (lv_at hl 0 rfl) ?_
                  refine lv_aload_n hx hb dX9_which_33 rfl (lv_at hl 5 rfl) ?_
                  refine va_get (ci := 9) (v := .int (zI hz)) (C := RX9) (T := TX9) (N := 30) hx hb hts i9 hown hK hP 0 rfl rfl 10 (by decide) f125 (fun _ h9 => h9) rfl dX9_which_34 ?_
                  refine z_icmp_ge (tgt := 102) hx hb (by omega) dX9_which_37 (by decide) (fun c_5 => ?_) (fun c_5 => ?_)
                  · refine lv_aload_n hx hb dX9_which_102 rfl (lv_at hl 5 rfl) ?_
                    refine lv_iload_n hx hb dX9_which_103 rfl (lv_at hl 3 rfl) ?_
                    refine z_wVv (As := [.int (zI t)]) (rest := []) ⟨hx, hb, hml, hown, hts⟩ (c_X9_turns l G hm0 S C Wy Li ml ms mw kn mi mk hz mh tr mt tn cu sa to nu wr it sS sC sL sW mq mn mc mr mb g t (by first | assumption | omega) (by omega) (by first | assumption | omega)) (cwV 1 hts gX9_which_X9_turns rfl rfl rfl pd_X9_turns ⟨(Nat.le_of_ble_eq_true rfl), (Nat.le_of_ble_eq_true rfl)⟩) hK hP hD hS [0, 1] (by decide) rfl rfl rfl rfl (fun _ => Eq.trans (b := [hm0, mn]) rfl rfl) rfl hl.1 rfl (Nat.le_of_ble_eq_true rfl) dX9_which_104 ⟨Nat.zero_le _, Nat.zero_le _⟩ (fun u_ H locs hw_6 hP hD hS => ?_)
                    try dsimp only at hw_6
                    have hP : kP G [(hm0, .inr (9, [.int (zI S), .int (zI C), .int (zI Wy), .int (zI Li), .ref ml, .ref ms, .ref mw, .int (zI kn), .ref mi, .ref mk, .int (zI hz), .ref mh, .long tr, .ref mt, .int (zI tn), .int (zI cu), .int (zI sa), .int (zI to), .int (zI nu), .int (zI wr), .int (zI it), .int (zI sS), .int (zI sC), .int (zI sL), .int (zI sW), .ref mq, .ref mn, .ref mc, .ref mr, .ref mb])), (mn, .inl (G.2.1, 15, .inl (aZ (uZ g 1 (fromZ S (g 1) t))))), (ms, .inl (G.2.1, 15, .inl (aZ sf))), (ml, .inl (G.2.1, 12, .inl (aZ ld))), (mh, .inl (G.2.1, 15, .inl (aZ hf)))] H := hP
                    have hD : va_D A [(hm0, .inr (9, [.int (zI S), .int (zI C), .int (zI Wy), .int (zI Li), .ref ml, .ref ms, .ref mw, .int (zI kn), .ref mi, .ref mk, .int (zI hz), .ref mh, .long tr, .ref mt, .int (zI tn), .int (zI cu), .int (zI sa), .int (zI to), .int (zI nu), .int (zI wr), .int (zI it), .int (zI sS), .int (zI sC), .int (zI sL), .int (zI sW), .ref mq, .ref mn, .ref mc, .ref mr, .ref mb])), (mn, .inl (G.2.1, 15, .inl (aZ (uZ g 1 (fromZ S (g 1) t))))), (ms, .inl (G.2.1, 15, .inl (aZ sf))), (ml, .inl (G.2.1, 12, .inl (aZ ld))), (mh, .inl (G.2.1, 15, .inl (aZ hf)))] := hD
                    refine lv_aload_n hx hb dX9_which_107 rfl (lv_at hl 5 rfl) ?_
                    refine z_wV (As := []) (rest := []) ⟨hx, hb, hml, hown, hts⟩ (c_X9_goes l G hm0 S C Wy Li ml ms mw kn mi mk hz mh tr mt tn cu sa to nu wr it sS sC sL sW mq mn mc mr mb (uZ g 1 (fromZ S (g 1) t)) ld (by first | assumption | omega) (by rw [uZ_same]; omega) (by exact fun i h1 h2 => by rw [uZ_ne _ _ (by omega)]; have := hgr i h1 h2; omega) (by first | assumption | omega)) (cwV 0 hts gX9_which_X9_goes rfl rfl rfl pd_X9_goes ⟨(Nat.le_of_ble_eq_true rfl), (Nat.le_of_ble_eq_true rfl)⟩) hK hP hD hS [0, 1, 3] (by decide) rfl rfl rfl rfl (fun _ => Eq.trans (b := [hm0, mn, ml]) rfl rfl) rfl hl.1 rfl (Nat.le_of_ble_eq_true rfl) dX9_which_108 ⟨Nat.zero_le _, Nat.zero_le _⟩ (fun r_ u_ H locs hw_8 hP hD hS => ?_)
                    obtain ⟨nf2_7, rfl⟩ : ∃ z, z = u_ := ⟨_, rfl⟩
                    obtain ⟨rfl, hw_8⟩ := hw_8
                    try dsimp only at hw_8
                    obtain rfl := hw_8
                    have hP : kP G [(hm0, .inr (9, [.int (zI S), .int (zI C), .int (zI Wy), .int (zI Li), .ref ml, .ref ms, .ref mw, .int (zI kn), .ref mi, .ref mk, .int (zI hz), .ref mh, .long tr, .ref mt, .int (zI tn), .int (zI cu), .int (zI sa), .int (zI to), .int (zI nu), .int (zI wr), .int (zI it), .int (zI sS), .int (zI sC), .int (zI sL), .int (zI sW), .ref mq, .ref mn, .ref mc, .ref mr, .ref mb])), (mn, .inl (G.2.1, 15, .inl (aZ (uZ (uZ (uZ g 1 (fromZ S (g 1) t)) (3 + (uZ g 1 (fromZ S (g 1) t)) 1) (if 999 < (uZ g 1 (fromZ S (g 1) t)) (3 + (uZ g 1 (fromZ S (g 1) t)) 1) + ld ((uZ g 1 (fromZ S (g 1) t)) 1) then 999 else (uZ g 1 (fromZ S (g 1) t)) (3 + (uZ g 1 (fromZ S (g 1) t)) 1) + ld ((uZ g 1 (fromZ S (g 1) t)) 1))) 0 ((uZ g 1 (fromZ S (g 1) t)) 0 + 1))))), (ms, .inl (G.2.1, 15, .inl (aZ sf))), (ml, .inl (G.2.1, 12, .inl (aZ ld))), (mh, .inl (G.2.1, 15, .inl (aZ hf)))] H := hP
                    have hD : va_D A [(hm0, .inr (9, [.int (zI S), .int (zI C), .int (zI Wy), .int (zI Li), .ref ml, .ref ms, .ref mw, .int (zI kn), .ref mi, .ref mk, .int (zI hz), .ref mh, .long tr, .ref mt, .int (zI tn), .int (zI cu), .int (zI sa), .int (zI to), .int (zI nu), .int (zI wr), .int (zI it), .int (zI sS), .int (zI sC), .int (zI sL), .int (zI sW), .ref mq, .ref mn, .ref mc, .ref mr, .ref mb])), (mn, .inl (G.2.1, 15, .inl (aZ (uZ (uZ (uZ g 1 (fromZ S (g 1) t)) (3 + (uZ g 1 (fromZ S (g 1) t)) 1) (if 999 < (uZ g 1 (fromZ S (g 1) t)) (3 + (uZ g 1 (fromZ S (g 1) t)) 1) + ld ((uZ g 1 (fromZ S (g 1) t)) 1) then 999 else (uZ g 1 (fromZ S (g 1) t)) (3 + (uZ g 1 (fromZ S (g 1) t)) 1) + ld ((uZ g 1 (fromZ S (g 1) t)) 1))) 0 ((uZ g 1 (fromZ S (g 1) t)) 0 + 1))))), (ms, .inl (G.2.1, 15, .inl (aZ sf))), (ml, .inl (G.2.1, 12, .inl (aZ ld))), (mh, .inl (G.2.1, 15, .inl (aZ hf)))] := hD
                    refine lv_pop hx hb dX9_which_111 rfl ?_
                    refine lv_iinc (v := zI (k + 1)) (lv' := [(4, .int (zI (k + 1))), (5, .int (zI i)), (3, .int (zI sm2)), (2, .int (zI t)), (1, .int (zI ((bits : Nat) : Int))), (0, .ref hm0)]) hx hb dX9_which_112 hl (k := 1) rfl (zI_add _ _) (by decide) rfl (fun ls hl => ?_)
                    refine lv_goto (tgt := 21) hx hb dX9_which_115 (by decide) ?_
                    exact ih21 (k + 1) sm2 (uZ (uZ (uZ g 1 (fromZ S (g 1) t)) (3 + (uZ g 1 (fromZ S (g 1) t)) 1) (if 999 < (uZ g 1 (fromZ S (g 1) t)) (3 + (uZ g 1 (fromZ S (g 1) t)) 1) + ld ((uZ g 1 (fromZ S (g 1) t)) 1) then 999 else (uZ g 1 (fromZ S (g 1) t)) (3 + (uZ g 1 (fromZ S (g 1) t)) 1) + ld ((uZ g 1 (fromZ S (g 1) t)) 1))) 0 ((uZ g 1 (fromZ S (g 1) t)) 0 + 1)) H locs ls (by omega) (by rw [tn1 hk.1]; exact stA_step hB (by omega) hl1 hld hst (hgr _ (by omega) (by omega)).2) (by rw [tn1 hk.1, wkK, Int.toNat_of_nonneg hk.1]; have h8 := hsm2; rw [show i.toNat = hz.toNat by omega] at h8; exact h8) (by omega) hP hD hS (lv_sub hl [0, 2, 3, 4, 5] rfl)
                  · refine lv_iload_n hx hb dX9_which_40 rfl (lv_at hl 2 rfl) ?_
                    refine z_if_eq (tgt := 94) hx hb (by omega) dX9_which_41 (by decide) (fun c_9 => ?_) (fun c_9 => ?_)
                    · refine lv_iconst (v := zI 0) hx hb dX9_which_94 rfl ?_
                      refine lv_istore_n (lv' := [(3, .int (zI 0)), (5, .int (zI i)), (4, .int (zI k)), (2, .int (zI t)), (1, .int (zI ((bits : Nat) : Int))), (0, .ref hm0)]) hx hb dX9_which_95 rfl hl (by decide) rfl (fun ls hl => ?_)
                      refine lv_iinc (v := zI (i + 1)) (lv' := [(5, .int (zI (i + 1))), (3, .int (zI 0)), (4, .int (zI k)), (2, .int (zI t)), (1, .int (zI ((bits : Nat) : Int))), (0, .ref hm0)]) hx hb dX9_which_96 hl (k := 1) rfl (zI_add _ _) (by decide) rfl (fun ls hl => ?_)
                      refine lv_goto (tgt := 31) hx hb dX9_which_99 (by decide) ?_
                      exact ih31 (i + 1) 0 H locs ls (by omega) (by rw [tn1 hi.1, wkI, Int.toNat_of_nonneg hi.1, ← Bool.and_assoc]; exact and_step hsm2 (by omega)) (by omega) hP hD hS (lv_sub hl [0, 2, 1, 3, 4, 5] rfl)
                    · have hhi := hhf i (by omega) (by omega)
                      have hgl := hst.2 (hf (3 * i + 1)) (by omega) (by omega)
                      have hgs := hgr (hf (3 * i + 1)) (by omega) (by omega)
                      refine lv_aload_n hx hb dX9_which_44 rfl (lv_at hl 5 rfl) ?_
                      refine va_get (ci := 9) (v := .ref mh) (C := RX9) (T := TX9) (N := 30) hx hb hts i9 hown hK hP 0 rfl rfl 11 (by decide) f39 (fun _ h9 => h9) rfl dX9_which_45 ?_
                      refine lv_iconst (v := zI 3) hx hb dX9_which_48 rfl ?_
                      refine lv_iload hx hb dX9_which_49 (lv_at hl 0 rfl) ?_
                      refine z_imul hx hb dX9_which_51 ?_
                      refine z_iald (n := 15) (f := hf) hx hb hK hP 4 rfl (by omega) dX9_which_52 ?_
                      refine lv_iload hx hb dX9_which_53 (lv_at hl 1 rfl) ?_
                      refine z_icmp_ne (tgt := 90) hx hb (by omega) dX9_which_55 (by decide) (fun c_10 => ?_) (fun c_10 => ?_)
                      · refine lv_iconst (v := zI 1) hx hb dX9_which_90 rfl ?_
                        refine lv_goto (tgt := 95) hx hb dX9_which_91 (by decide) ?_
                        refine lv_istore_n (lv' := [(3, .int (zI 1)), (5, .int (zI i)), (4, .int (zI k)), (2, .int (zI t)), (1, .int (zI ((bits : Nat) : Int))), (0, .ref hm0)]) hx hb dX9_which_95 rfl hl (by decide) rfl (fun ls hl => ?_)
                        refine lv_iinc (v := zI (i + 1)) (lv' := [(5, .int (zI (i + 1))), (3, .int (zI 1)), (4, .int (zI k)), (2, .int (zI t)), (1, .int (zI ((bits : Nat) : Int))), (0, .ref hm0)]) hx hb dX9_which_96 hl (k := 1) rfl (zI_add _ _) (by decide) rfl (fun ls hl => ?_)
                        refine lv_goto (tgt := 31) hx hb dX9_which_99 (by decide) ?_
                        exact ih31 (i + 1) 1 H locs ls (by omega) (by rw [tn1 hi.1, wkI, Int.toNat_of_nonneg hi.1, ← Bool.and_assoc]; exact and_step hsm2 (by omega)) (by omega) hP hD hS (lv_sub hl [0, 2, 1, 3, 4, 5] rfl)
                      · refine lv_aload_n hx hb dX9_which_58 rfl (lv_at hl 5 rfl) ?_
                        refine va_get (ci := 9) (v := .ref mn) (C := RX9) (T := TX9) (N := 30) hx hb hts i9 hown hK hP 0 rfl rfl 26 (by decide) f48 (fun _ h9 => h9) rfl dX9_which_59 ?_
                        refine lv_iconst (v := zI 3) hx hb dX9_which_62 rfl ?_
                        refine lv_aload_n hx hb dX9_which_63 rfl (lv_at hl 5 rfl) ?_
                        refine va_get (ci := 9) (v := .ref mh) (C := RX9) (T := TX9) (N := 30) hx hb hts i9 hown hK hP 0 rfl rfl 11 (by decide) f39 (fun _ h9 => h9) rfl dX9_which_64 ?_
                        refine lv_iconst (v := zI 3) hx hb dX9_which_67 rfl ?_
                        refine lv_iload hx hb dX9_which_68 (lv_at hl 0 rfl) ?_
                        refine z_imul hx hb dX9_which_70 ?_
                        refine lv_iconst (v := zI 1) hx hb dX9_which_71 rfl ?_
                        refine z_iadd hx hb dX9_which_72 ?_
                        refine z_iald (n := 15) (f := hf) hx hb hK hP 4 rfl (by omega) dX9_which_73 ?_
                        refine z_iadd hx hb dX9_which_74 ?_
                        refine z_iald (n := 15) (f := g) hx hb hK hP 1 rfl (by omega) dX9_which_75 ?_
                        refine lv_aload_n hx hb dX9_which_76 rfl (lv_at hl 5 rfl) ?_
                        refine va_get (ci := 9) (v := .ref mh) (C := RX9) (T := TX9) (N := 30) hx hb hts i9 hown hK hP 0 rfl rfl 11 (by decide) f39 (fun _ h9 => h9) rfl dX9_which_77 ?_
                        refine lv_iconst (v := zI 3) hx hb dX9_which_80 rfl ?_
                        refine lv_iload hx hb dX9_which_81 (lv_at hl 0 rfl) ?_
                        refine z_imul hx hb dX9_which_83 ?_
                        refine lv_iconst (v := zI 2) hx hb dX9_which_84 rfl ?_
                        refine z_iadd hx hb dX9_which_85 ?_
                        refine z_iald (n := 15) (f := hf) hx hb hK hP 4 rfl (by omega) dX9_which_86 ?_
                        refine z_icmp_ne (tgt := 94) hx hb (by omega) dX9_which_87 (by decide) (fun c_11 => ?_) (fun c_11 => ?_)
                        · refine lv_iconst (v := zI 0) hx hb dX9_which_94 rfl ?_
                          refine lv_istore_n (lv' := [(3, .int (zI 0)), (5, .int (zI i)), (4, .int (zI k)), (2, .int (zI t)), (1, .int (zI ((bits : Nat) : Int))), (0, .ref hm0)]) hx hb dX9_which_95 rfl hl (by decide) rfl (fun ls hl => ?_)
                          refine lv_iinc (v := zI (i + 1)) (lv' := [(5, .int (zI (i + 1))), (3, .int (zI 0)), (4, .int (zI k)), (2, .int (zI t)), (1, .int (zI ((bits : Nat) : Int))), (0, .ref hm0)]) hx hb dX9_which_96 hl (k := 1) rfl (zI_add _ _) (by decide) rfl (fun ls hl => ?_)
                          refine lv_goto (tgt := 31) hx hb dX9_which_99 (by decide) ?_
                          exact ih31 (i + 1) 0 H locs ls (by omega) (by rw [tn1 hi.1, wkI, Int.toNat_of_nonneg hi.1, ← Bool.and_assoc]; exact and_step hsm2 (by omega)) (by omega) hP hD hS (lv_sub hl [0, 2, 1, 3, 4, 5] rfl)
                        · refine lv_iconst (v := zI 1) hx hb dX9_which_90 rfl ?_
                          refine lv_goto (tgt := 95) hx hb dX9_which_91 (by decide) ?_
                          refine lv_istore_n (lv' := [(3, .int (zI 1)), (5, .int (zI i)), (4, .int (zI k)), (2, .int (zI t)), (1, .int (zI ((bits : Nat) : Int))), (0, .ref hm0)]) hx hb dX9_which_95 rfl hl (by decide) rfl (fun ls hl => ?_)
                          refine lv_iinc (v := zI (i + 1)) (lv' := [(5, .int (zI (i + 1))), (3, .int (zI 1)), (4, .int (zI k)), (2, .int (zI t)), (1, .int (zI ((bits : Nat) : Int))), (0, .ref hm0)]) hx hb dX9_which_96 hl (k := 1) rfl (zI_add _ _) (by decide) rfl (fun ls hl => ?_)
                          refine lv_goto (tgt := 31) hx hb dX9_which_99 (by decide) ?_
                          exact ih31 (i + 1) 1 H locs ls (by omega) (by rw [tn1 hi.1, wkI, Int.toNat_of_nonneg hi.1, ← Bool.and_assoc]; exact and_step hsm2 (by omega)) (by omega) hP hD hS (lv_sub hl [0, 2, 1, 3, 4, 5] rfl)
              exact loop31 _ 0 sm H locs ls (by omega) (by show (sm = 1 ∧ (_ && true) = true) ∨ (sm = 0 ∧ ¬ (_ && true) = true); rw [Bool.and_true]; exact hsm) (Nat.lt_succ_self _) hP hD hS (lv_sub hl [0, 1, 2, 3, 4, 5] rfl)
        exact loop21 _ 0 1 (cpK g0 0 sf 0 15) H locs ls (by omega) (by exact ⟨cp15 (by omega), fun i h1 h2 => cp15 (by omega)⟩) (by exact Or.inl ⟨rfl, rfl⟩) (Nat.lt_succ_self _) hP hD hS (lv_sub hl [0, 1, 2, 3, 4] rfl)
  exact loop4 _ 0 0 nf H locs ls (by omega) rfl (Nat.lt_succ_self _) hP hD hS (lv_sub hl [0, 1, 2] rfl)
theorem pd_X9_odds : yX9_odds.cls = RX9 ∧ yX9_odds.cls ≠ "java/lang/invoke/MethodHandle" ∧ yX9_odds.cls ≠ "java/lang/invoke/VarHandle" ∧ (parseMethodDescriptor yX9_odds.desc).map (fun d => d.parameters.length) = some 5 := by decide +kernel
abbrev rmX9_odds : Room := { frames := 2, cells := 0, slots := 0, locals := 43 }
set_option maxHeartbeats 4000000 in
set_option maxRecDepth 100000 in
theorem c_X9_odds (l : Launch) (G : CX) (hm0 : Nat) (S : Int) (C : Int) (Wy : Int) (Li : Int) (ml : Nat) (ms : Nat) (mw : Nat) (kn : Int) (mi : Nat) (mk : Nat) (hz : Int) (mh : Nat) (tr : Int64) (mt : Nat) (tn : Int) (cu : Int) (sa : Int) (to : Int) (nu : Int) (wr : Int) (it : Int) (sS : Int) (sC : Int) (sL : Int) (sW : Int) (mq : Nat) (mn : Nat) (mc : Nat) (mr : Nat) (mb : Nat) (sf : Int → Int) (t : Int) (x : Int) (n : Int) (w : Int) (what : Int) (hB : (2 ≤ S ∧ S ≤ 6) ∧ (C = 1 ∧ Wy = S ∨ C = 2 ∧ Wy = 2 * S)) (hl1 : 0 ≤ sf 1 ∧ sf 1 < Wy) (hr_t : -2147483648 ≤ t ∧ t < 2147483648) (hr_x : -2147483648 ≤ x ∧ x < 2147483648) (hr_n : -2147483648 ≤ n ∧ n < 2147483648) (hr_w : -2147483648 ≤ w ∧ w < 2147483648) (hr_what : -2147483648 ≤ what ∧ what < 2147483648) : Met l yX9_odds wsX9_odds rmX9_odds (rdP G [.ref hm0, .int (zI t), .int (zI x), .int (zI n), .int (zI w), .int (zI what)] [(hm0, .inr (9, [.int (zI S), .int (zI C), .int (zI Wy), .int (zI Li), .ref ml, .ref ms, .ref mw, .int (zI kn), .ref mi, .ref mk, .int (zI hz), .ref mh, .long tr, .ref mt, .int (zI tn), .int (zI cu), .int (zI sa), .int (zI to), .int (zI nu), .int (zI wr), .int (zI it), .int (zI sS), .int (zI sC), .int (zI sL), .int (zI sW), .ref mq, .ref mn, .ref mc, .ref mr, .ref mb])), (ms, .inl (G.2.1, 15, .inl (aZ sf)))]) (rdQ (zI (if ¬ ((0 ≤ t ∧ t < Wy) ∧ (0 ≤ w ∧ w < Wy) ∧ (0 ≤ x ∧ x ≤ 10) ∧ (0 ≤ n ∧ n ≤ 6) ∧ (what = 0 ∨ what = 1)) then -1 else (if what = 0 then oaS S t (sf 1) x w n.toNat (2 ^ n.toNat) else pwZ 10 n.toNat) / ((Nat.gcd (oaS S t (sf 1) x w n.toNat (2 ^ n.toNat)).toNat (pwZ 10 n.toNat).toNat : Nat) : Int)))) 0 0 noA := by
  refine rd_ofW (cc := cX9_odds) (maxL := 12) (ty := .int) (by decide) rfl (Nat.le_of_ble_eq_true rfl) rfl ?_
  intro p e s m below meth c Q A hx hb hml hown hts hK hret H locs hP hS ls hl
  have hown : s.vm.findClass RX9 = some m.cls := hown
  have hl : lv_has ls 12 [(0, .ref hm0), (1, .int (zI t)), (2, .int (zI x)), (3, .int (zI n)), (4, .int (zI w)), (5, .int (zI what))] := hl
  have f26 := hts (.fieldLink RX9 26 "QuarterTurnsModel" "st" "[I") (by decide +kernel)
  have i9 : ∀ w ∈ wsX90, w ∈ wsX9_odds := fun w h => List.mem_cons_of_mem _ (List.mem_append_right _ h)
  refine lv_aload_n hx hb dX9_odds_0 rfl (lv_at hl 0 rfl) ?_
  refine lv_iload_n hx hb dX9_odds_1 rfl (lv_at hl 1 rfl) ?_
  refine z_cV (As := [.int (zI t)]) (rest := []) ⟨hx, hb, hml, hown, hts⟩ (c_X9_isWay l G hm0 S C Wy Li ml ms mw kn mi mk hz mh tr mt tn cu sa to nu wr it sS sC sL sW mq mn mc mr mb t (by first | assumption | omega) (by first | assumption | omega)) (cwV 1 hts gX9_odds_X9_isWay rfl rfl rfl pd_X9_isWay ⟨(Nat.le_of_ble_eq_true rfl), (Nat.le_of_ble_eq_true rfl)⟩) hK hP hS [0] rfl rfl rfl rfl rfl hl.1 rfl (Nat.le_of_ble_eq_true rfl) dX9_odds_2 ⟨Nat.zero_le _, Nat.zero_le _⟩ (fun H locs hP hS => ?_)
  refine z_ifeq_b (tgt := 47) hx hb dX9_odds_5 (by decide) (fun c_1 => ?_) (fun c_1 => ?_)
  · refine lv_iconst (v := zI (-1)) hx hb dX9_odds_47 rfl ?_
    exact hret H locs ls 48 _ (congrArg zI (by rw [if_pos (by omega)])) hS dX9_odds_48
  · refine lv_iload_n hx hb dX9_odds_8 rfl (lv_at hl 2 rfl) ?_
    refine lv_iconst (v := zI 0) hx hb dX9_odds_9 rfl ?_
    refine lv_bipush (v := zI 10) hx hb dX9_odds_10 (by decide) ?_
    refine z_cS (As := [.int (zI x), .int (zI 0), .int (zI 10)]) (rest := []) ⟨hx, hb, hml, hown, hts⟩ (c_X9_in l G x 0 10 (by first | assumption | omega)) (va_cwS 3 hts gX9_odds_X9_in rfl rfl rfl pd_X9_in.2 ⟨(Nat.le_of_ble_eq_true rfl), (Nat.le_of_ble_eq_true rfl)⟩) hK hP hS [] rfl rfl hl.1 rfl (Nat.le_of_ble_eq_true rfl) dX9_odds_12 ⟨Nat.zero_le _, Nat.zero_le _⟩ (fun H locs hP hS => ?_)
    refine z_ifeq_b (tgt := 47) hx hb dX9_odds_15 (by decide) (fun c_2 => ?_) (fun c_2 => ?_)
    · refine lv_iconst (v := zI (-1)) hx hb dX9_odds_47 rfl ?_
      exact hret H locs ls 48 _ (congrArg zI (by rw [if_pos (by omega)])) hS dX9_odds_48
    · refine lv_iload_n hx hb dX9_odds_18 rfl (lv_at hl 3 rfl) ?_
      refine lv_iconst (v := zI 0) hx hb dX9_odds_19 rfl ?_
      refine lv_bipush (v := zI 6) hx hb dX9_odds_20 (by decide) ?_
      refine z_cS (As := [.int (zI n), .int (zI 0), .int (zI 6)]) (rest := []) ⟨hx, hb, hml, hown, hts⟩ (c_X9_in l G n 0 6 (by first | assumption | omega)) (va_cwS 3 hts gX9_odds_X9_in rfl rfl rfl pd_X9_in.2 ⟨(Nat.le_of_ble_eq_true rfl), (Nat.le_of_ble_eq_true rfl)⟩) hK hP hS [] rfl rfl hl.1 rfl (Nat.le_of_ble_eq_true rfl) dX9_odds_22 ⟨Nat.zero_le _, Nat.zero_le _⟩ (fun H locs hP hS => ?_)
      refine z_ifeq_b (tgt := 47) hx hb dX9_odds_25 (by decide) (fun c_3 => ?_) (fun c_3 => ?_)
      · refine lv_iconst (v := zI (-1)) hx hb dX9_odds_47 rfl ?_
        exact hret H locs ls 48 _ (congrArg zI (by rw [if_pos (by omega)])) hS dX9_odds_48
      · refine lv_aload_n hx hb dX9_odds_28 rfl (lv_at hl 0 rfl) ?_
        refine lv_iload hx hb dX9_odds_29 (lv_at hl 4 rfl) ?_
        refine z_cV (As := [.int (zI w)]) (rest := []) ⟨hx, hb, hml, hown, hts⟩ (c_X9_isWay l G hm0 S C Wy Li ml ms mw kn mi mk hz mh tr mt tn cu sa to nu wr it sS sC sL sW mq mn mc mr mb w (by first | assumption | omega) (by first | assumption | omega)) (cwV 1 hts gX9_odds_X9_isWay rfl rfl rfl pd_X9_isWay ⟨(Nat.le_of_ble_eq_true rfl), (Nat.le_of_ble_eq_true rfl)⟩) hK hP hS [0] rfl rfl rfl rfl rfl hl.1 rfl (Nat.le_of_ble_eq_true rfl) dX9_odds_31 ⟨Nat.zero_le _, Nat.zero_le _⟩ (fun H locs hP hS => ?_)
        refine z_ifeq_b (tgt := 47) hx hb dX9_odds_34 (by decide) (fun c_4 => ?_) (fun c_4 => ?_)
        · refine lv_iconst (v := zI (-1)) hx hb dX9_odds_47 rfl ?_
          exact hret H locs ls 48 _ (congrArg zI (by rw [if_pos (by omega)])) hS dX9_odds_48
        · refine lv_iload hx hb dX9_odds_37 (lv_at hl 5 rfl) ?_
          refine lv_iconst (v := zI 0) hx hb dX9_odds_39 rfl ?_
          refine lv_iconst (v := zI 1) hx hb dX9_odds_40 rfl ?_
          refine z_cS (As := [.int (zI what), .int (zI 0), .int (zI 1)]) (rest := []) ⟨hx, hb, hml, hown, hts⟩ (c_X9_in l G what 0 1 (by first | assumption | omega)) (va_cwS 3 hts gX9_odds_X9_in rfl rfl rfl pd_X9_in.2 ⟨(Nat.le_of_ble_eq_true rfl), (Nat.le_of_ble_eq_true rfl)⟩) hK hP hS [] rfl rfl hl.1 rfl (Nat.le_of_ble_eq_true rfl) dX9_odds_41 ⟨Nat.zero_le _, Nat.zero_le _⟩ (fun H locs hP hS => ?_)
          refine z_ifne_b (tgt := 49) hx hb dX9_odds_44 (by decide) (fun c_5 => ?_) (fun c_5 => ?_)
          · have hp64 : (2 : Nat) ^ n.toNat ≤ 64 := Nat.le_trans (Nat.pow_le_pow_right (by decide) (show n.toNat ≤ 6 by omega)) (by decide)
            have hp10 := pw10_rng (n := n) (by omega)
            refine lv_iconst (v := zI 0) hx hb dX9_odds_49 rfl ?_
            refine lv_istore (lv' := [(6, .int (zI 0)), (0, .ref hm0), (1, .int (zI t)), (2, .int (zI x)), (3, .int (zI n)), (4, .int (zI w)), (5, .int (zI what))]) hx hb dX9_odds_50 hl (by decide) rfl (fun ls hl => ?_)
            refine lv_iconst (v := zI 1) hx hb dX9_odds_52 rfl ?_
            refine lv_istore (lv' := [(7, .int (zI 1)), (6, .int (zI 0)), (0, .ref hm0), (1, .int (zI t)), (2, .int (zI x)), (3, .int (zI n)), (4, .int (zI w)), (5, .int (zI what))]) hx hb dX9_odds_53 hl (by decide) rfl (fun ls hl => ?_)
            refine lv_iconst (v := zI 0) hx hb dX9_odds_55 rfl ?_
            refine lv_istore (lv' := [(8, .int (zI 0)), (7, .int (zI 1)), (6, .int (zI 0)), (0, .ref hm0), (1, .int (zI t)), (2, .int (zI x)), (3, .int (zI n)), (4, .int (zI w)), (5, .int (zI what))]) hx hb dX9_odds_56 hl (by decide) rfl (fun ls hl => ?_)
            have loop58 : ∀ (n_ : Nat) (k : Int) (be : Int) (H : Heap) (locs : List Loc) (ls : Array Slot), (0 ≤ k ∧ k ≤ n) → (be = pwZ 10 k.toNat) → (n - k).toNat < n_ → kP G [(hm0, .inr (9, [.int (zI S), .int (zI C), .int (zI Wy), .int (zI Li), .ref ml, .ref ms, .ref mw, .int (zI kn), .ref mi, .ref mk, .int (zI hz), .ref mh, .long tr, .ref mt, .int (zI tn), .int (zI cu), .int (zI sa), .int (zI to), .int (zI nu), .int (zI wr), .int (zI it), .int (zI sS), .int (zI sC), .int (zI sL), .int (zI sW), .ref mq, .ref mn, .ref mc, .ref mr, .ref mb])), (ms, .inl (G.2.1, 15, .inl (aZ sf)))] H → va_S A s.heap H locs → lv_has ls 12 [(8, .int (zI k)), (7, .int (zI be)), (6, .int (zI 0)), (0, .ref hm0), (1, .int (zI t)), (2, .int (zI x)), (3, .int (zI n)), (4, .int (zI w)), (5, .int (zI what))] → W p l e rmX9_odds s m ([.ref hm0, .int (zI t), .int (zI x), .int (zI n), .int (zI w), .int (zI what)] : List Value).toArray below meth c H locs 0 0 Q (F0 m 58 ls []) := by
              intro n_
              induction n_ with
              | zero =>
                intro k be H locs ls hk hbe hm
                exact absurd hm (Nat.not_lt_zero _)
              | succ n_ ih58 =>
                intro k be H locs ls hk hbe hm58 hP hS hl
                refine lv_iload hx hb dX9_odds_58 (lv_at hl 0 rfl) ?_
                refine lv_iload_n hx hb dX9_odds_60 rfl (lv_at hl 6 rfl) ?_
                refine z_icmp_ge (tgt := 77) hx hb (by omega) dX9_odds_61 (by decide) (fun c_6 => ?_) (fun c_6 => ?_)
                · refine lv_iconst (v := zI 0) hx hb dX9_odds_77 rfl ?_
                  refine lv_istore (lv' := [(8, .int (zI 0)), (7, .int (zI be)), (6, .int (zI 0)), (0, .ref hm0), (1, .int (zI t)), (2, .int (zI x)), (3, .int (zI n)), (4, .int (zI w)), (5, .int (zI what))]) hx hb dX9_odds_78 hl (by decide) rfl (fun ls hl => ?_)
                  have loop80 : ∀ (n_ : Nat) (se : Int) (ab : Int) (H : Heap) (locs : List Loc) (ls : Array Slot), (0 ≤ se ∧ se ≤ ((2 ^ n.toNat : Nat) : Int)) → (ab = oaS S t (sf 1) x w n.toNat se.toNat) → (((2 ^ n.toNat : Nat) : Int) - se).toNat < n_ → kP G [(hm0, .inr (9, [.int (zI S), .int (zI C), .int (zI Wy), .int (zI Li), .ref ml, .ref ms, .ref mw, .int (zI kn), .ref mi, .ref mk, .int (zI hz), .ref mh, .long tr, .ref mt, .int (zI tn), .int (zI cu), .int (zI sa), .int (zI to), .int (zI nu), .int (zI wr), .int (zI it), .int (zI sS), .int (zI sC), .int (zI sL), .int (zI sW), .ref mq, .ref mn, .ref mc, .ref mr, .ref mb])), (ms, .inl (G.2.1, 15, .inl (aZ sf)))] H → va_S A s.heap H locs → lv_has ls 12 [(8, .int (zI se)), (7, .int (zI be)), (6, .int (zI ab)), (0, .ref hm0), (1, .int (zI t)), (2, .int (zI x)), (3, .int (zI n)), (4, .int (zI w)), (5, .int (zI what))] → W p l e rmX9_odds s m ([.ref hm0, .int (zI t), .int (zI x), .int (zI n), .int (zI w), .int (zI what)] : List Value).toArray below meth c H locs 0 0 Q (F0 m 80 ls []) := by
                    intro n_
                    induction n_ with
                    | zero =>
                      intro se ab H locs ls hse hab hm
                      exact absurd hm (Nat.not_lt_zero _)
                    | succ n_ ih80 =>
                      intro se ab H locs ls hse hab hm80 hP hS hl
                      refine lv_iload hx hb dX9_odds_80 (lv_at hl 0 rfl) ?_
                      refine lv_iconst (v := zI 1) hx hb dX9_odds_82 rfl ?_
                      refine lv_iload_n hx hb dX9_odds_83 rfl (lv_at hl 6 rfl) ?_
                      refine z_shl1 hx hb (by omega) dX9_odds_84 ?_
                      refine z_icmp_ge (tgt := 185) hx hb (by omega) dX9_odds_85 (by decide) (fun c_7 => ?_) (fun c_7 => ?_)
                      · have habF : ab = oaS S t (sf 1) x w n.toNat (2 ^ n.toNat) := by rw [hab, show se.toNat = 2 ^ n.toNat by omega]
                        have habR := oaS_rng (S := S) (t := t) (home := sf 1) (x := x) (w := w) (n := n) (by omega) (by omega) (2 ^ n.toNat)
                        rw [← habF] at habR
                        have hbeF : be = pwZ 10 n.toNat := by rw [hbe, show k = n by omega]
                        refine lv_iload hx hb dX9_odds_185 (lv_at hl 2 rfl) ?_
                        refine lv_istore (lv' := [(8, .int (zI ab)), (7, .int (zI be)), (6, .int (zI ab)), (0, .ref hm0), (1, .int (zI t)), (2, .int (zI x)), (3, .int (zI n)), (4, .int (zI w)), (5, .int (zI what))]) hx hb dX9_odds_187 hl (by decide) rfl (fun ls hl => ?_)
                        refine lv_iload hx hb dX9_odds_189 (lv_at hl 1 rfl) ?_
                        refine lv_istore (lv' := [(9, .int (zI be)), (8, .int (zI ab)), (7, .int (zI be)), (6, .int (zI ab)), (0, .ref hm0), (1, .int (zI t)), (2, .int (zI x)), (3, .int (zI n)), (4, .int (zI w)), (5, .int (zI what))]) hx hb dX9_odds_191 hl (by decide) rfl (fun ls hl => ?_)
                        have loop193 : ∀ (n_ : Nat) (y : Int) (z : Int) (H : Heap) (locs : List Loc) (ls : Array Slot), ((0 ≤ y ∧ y ≤ 64000000) ∧ (0 ≤ z ∧ z ≤ 64000000)) → (Nat.gcd y.toNat z.toNat = Nat.gcd (oaS S t (sf 1) x w n.toNat (2 ^ n.toNat)).toNat (pwZ 10 n.toNat).toNat) → z.toNat < n_ → kP G [(hm0, .inr (9, [.int (zI S), .int (zI C), .int (zI Wy), .int (zI Li), .ref ml, .ref ms, .ref mw, .int (zI kn), .ref mi, .ref mk, .int (zI hz), .ref mh, .long tr, .ref mt, .int (zI tn), .int (zI cu), .int (zI sa), .int (zI to), .int (zI nu), .int (zI wr), .int (zI it), .int (zI sS), .int (zI sC), .int (zI sL), .int (zI sW), .ref mq, .ref mn, .ref mc, .ref mr, .ref mb])), (ms, .inl (G.2.1, 15, .inl (aZ sf)))] H → va_S A s.heap H locs → lv_has ls 12 [(9, .int (zI z)), (8, .int (zI y)), (7, .int (zI be)), (6, .int (zI ab)), (0, .ref hm0), (1, .int (zI t)), (2, .int (zI x)), (3, .int (zI n)), (4, .int (zI w)), (5, .int (zI what))] → W p l e rmX9_odds s m ([.ref hm0, .int (zI t), .int (zI x), .int (zI n), .int (zI w), .int (zI what)] : List Value).toArray below meth c H locs 0 0 Q (F0 m 193 ls []) := by
                          intro n_
                          induction n_ with
                          | zero =>
                            intro y z H locs ls hyz hgc hm
                            exact absurd hm (Nat.not_lt_zero _)
                          | succ n_ ih193 =>
                            intro y z H locs ls hyz hgc hm193 hP hS hl
                            refine lv_iload hx hb dX9_odds_193 (lv_at hl 0 rfl) ?_
                            refine z_if_le (tgt := 216) hx hb (by omega) dX9_odds_195 (by decide) (fun c_8 => ?_) (fun c_8 => ?_)
                            · have hyg : y = ((Nat.gcd (oaS S t (sf 1) x w n.toNat (2 ^ n.toNat)).toNat (pwZ 10 n.toNat).toNat : Nat) : Int) := by rw [← hgc, show z = 0 by omega]; show y = ((Nat.gcd y.toNat 0 : Nat) : Int); rw [Nat.gcd_zero_right]; omega
                              have hgp := Nat.gcd_pos_of_pos_right (oaS S t (sf 1) x w n.toNat (2 ^ n.toNat)).toNat (show 0 < (pwZ 10 n.toNat).toNat by omega)
                              refine lv_iload hx hb dX9_odds_216 (lv_at hl 9 rfl) ?_
                              refine z_if_ne (tgt := 226) hx hb (by omega) dX9_odds_218 (by decide) (fun c_9 => ?_) (fun c_9 => ?_)
                              · refine lv_iload hx hb dX9_odds_226 (lv_at hl 2 rfl) ?_
                                refine lv_iload hx hb dX9_odds_228 (lv_at hl 1 rfl) ?_
                                refine z_idiv hx hb (by omega) dX9_odds_230 ?_
                                exact hret H locs ls 231 _ (congrArg zI (by rw [if_neg (by omega), ← hyg]; first | (rw [if_pos (by omega), ← habF]; done) | (rw [if_neg (by omega), ← hbeF]; done))) hS dX9_odds_231
                              · refine lv_iload hx hb dX9_odds_221 (lv_at hl 3 rfl) ?_
                                refine lv_goto (tgt := 228) hx hb dX9_odds_223 (by decide) ?_
                                refine lv_iload hx hb dX9_odds_228 (lv_at hl 1 rfl) ?_
                                refine z_idiv hx hb (by omega) dX9_odds_230 ?_
                                exact hret H locs ls 231 _ (congrArg zI (by rw [if_neg (by omega), ← hyg]; first | (rw [if_pos (by omega), ← habF]; done) | (rw [if_neg (by omega), ← hbeF]; done))) hS dX9_odds_231
                            · refine lv_iload hx hb dX9_odds_198 (lv_at hl 1 rfl) ?_
                              refine lv_iload hx hb dX9_odds_200 (lv_at hl 0 rfl) ?_
                              refine z_irem hx hb (by omega) dX9_odds_202 ?_
                              refine lv_istore (lv' := [(10, .int (zI (y % z))), (9, .int (zI z)), (8, .int (zI y)), (7, .int (zI be)), (6, .int (zI ab)), (0, .ref hm0), (1, .int (zI t)), (2, .int (zI x)), (3, .int (zI n)), (4, .int (zI w)), (5, .int (zI what))]) hx hb dX9_odds_203 hl (by decide) rfl (fun ls hl => ?_)
                              refine lv_iload hx hb dX9_odds_205 (lv_at hl 1 rfl) ?_
                              refine lv_istore (lv' := [(8, .int (zI z)), (10, .int (zI (y % z))), (9, .int (zI z)), (7, .int (zI be)), (6, .int (zI ab)), (0, .ref hm0), (1, .int (zI t)), (2, .int (zI x)), (3, .int (zI n)), (4, .int (zI w)), (5, .int (zI what))]) hx hb dX9_odds_207 hl (by decide) rfl (fun ls hl => ?_)
                              refine lv_iload hx hb dX9_odds_209 (lv_at hl 1 rfl) ?_
                              refine lv_istore (lv' := [(9, .int (zI (y % z))), (8, .int (zI z)), (10, .int (zI (y % z))), (7, .int (zI be)), (6, .int (zI ab)), (0, .ref hm0), (1, .int (zI t)), (2, .int (zI x)), (3, .int (zI n)), (4, .int (zI w)), (5, .int (zI what))]) hx hb dX9_odds_211 hl (by decide) rfl (fun ls hl => ?_)
                              refine lv_goto (tgt := 193) hx hb dX9_odds_213 (by decide) ?_
                              exact ih193 z (y % z) H locs ls (by have h9 := mod_rng (a := y) (b := z) (by omega); omega) (by rw [← hgc]; exact gcd_st (by omega) (by omega)) (by have h9 := mod_rng (a := y) (b := z) (by omega); omega) hP hS (lv_sub hl [0, 1, 3, 4, 5, 6, 7, 8, 9, 10] rfl)
                        exact loop193 _ ab be H locs ls (by omega) (by rw [habF, hbeF]) (Nat.lt_succ_self _) hP hS (lv_sub hl [0, 1, 2, 3, 4, 5, 6, 7, 8, 9] rfl)
                      · refine lv_aload_n hx hb dX9_odds_88 rfl (lv_at hl 3 rfl) ?_
                        refine va_get (ci := 9) (v := .ref ms) (C := RX9) (T := TX9) (N := 30) hx hb hts i9 hown hK hP 0 rfl rfl 5 (by decide) f26 (fun _ h9 => h9) rfl dX9_odds_89 ?_
                        refine lv_iconst (v := zI 1) hx hb dX9_odds_92 rfl ?_
                        refine z_iald (n := 15) (f := sf) hx hb hK hP 1 rfl (by omega) dX9_odds_93 ?_
                        refine lv_istore (lv' := [(9, .int (zI (sf 1))), (8, .int (zI se)), (7, .int (zI be)), (6, .int (zI ab)), (0, .ref hm0), (1, .int (zI t)), (2, .int (zI x)), (3, .int (zI n)), (4, .int (zI w)), (5, .int (zI what))]) hx hb dX9_odds_94 hl (by decide) rfl (fun ls hl => ?_)
                        refine lv_iconst (v := zI 1) hx hb dX9_odds_96 rfl ?_
                        refine lv_istore (lv' := [(10, .int (zI 1)), (9, .int (zI (sf 1))), (8, .int (zI se)), (7, .int (zI be)), (6, .int (zI ab)), (0, .ref hm0), (1, .int (zI t)), (2, .int (zI x)), (3, .int (zI n)), (4, .int (zI w)), (5, .int (zI what))]) hx hb dX9_odds_97 hl (by decide) rfl (fun ls hl => ?_)
                        refine lv_iconst (v := zI 0) hx hb dX9_odds_99 rfl ?_
                        refine lv_istore (lv' := [(11, .int (zI 0)), (10, .int (zI 1)), (9, .int (zI (sf 1))), (8, .int (zI se)), (7, .int (zI be)), (6, .int (zI ab)), (0, .ref hm0), (1, .int (zI t)), (2, .int (zI x)), (3, .int (zI n)), (4, .int (zI w)), (5, .int (zI what))]) hx hb dX9_odds_100 hl (by decide) rfl (fun ls hl => ?_)
                        have loop102 : ∀ (n_ : Nat) (kk : Int) (at1 : Int) (we : Int) (H : Heap) (locs : List Loc) (ls : Array Slot), (0 ≤ kk ∧ kk ≤ n) → (0 ≤ at1 ∧ at1 < Wy) → (at1 = oaI S t (sf 1) se.toNat kk.toNat) → (we = owI x se.toNat kk.toNat) → (n - kk).toNat < n_ → kP G [(hm0, .inr (9, [.int (zI S), .int (zI C), .int (zI Wy), .int (zI Li), .ref ml, .ref ms, .ref mw, .int (zI kn), .ref mi, .ref mk, .int (zI hz), .ref mh, .long tr, .ref mt, .int (zI tn), .int (zI cu), .int (zI sa), .int (zI to), .int (zI nu), .int (zI wr), .int (zI it), .int (zI sS), .int (zI sC), .int (zI sL), .int (zI sW), .ref mq, .ref mn, .ref mc, .ref mr, .ref mb])), (ms, .inl (G.2.1, 15, .inl (aZ sf)))] H → va_S A s.heap H locs → lv_has ls 12 [(11, .int (zI kk)), (10, .int (zI we)), (9, .int (zI at1)), (8, .int (zI se)), (7, .int (zI be)), (6, .int (zI ab)), (0, .ref hm0), (1, .int (zI t)), (2, .int (zI x)), (3, .int (zI n)), (4, .int (zI w)), (5, .int (zI what))] → W p l e rmX9_odds s m ([.ref hm0, .int (zI t), .int (zI x), .int (zI n), .int (zI w), .int (zI what)] : List Value).toArray below meth c H locs 0 0 Q (F0 m 102 ls []) := by
                          intro n_
                          induction n_ with
                          | zero =>
                            intro kk at1 we H locs ls hkk har hat hwe hm
                            exact absurd hm (Nat.not_lt_zero _)
                          | succ n_ ih102 =>
                            intro kk at1 we H locs ls hkk har hat hwe hm102 hP hS hl
                            refine lv_iload hx hb dX9_odds_102 (lv_at hl 0 rfl) ?_
                            refine lv_iload_n hx hb dX9_odds_104 rfl (lv_at hl 9 rfl) ?_
                            refine z_icmp_ge (tgt := 161) hx hb (by omega) dX9_odds_105 (by decide) (fun c_10 => ?_) (fun c_10 => ?_)
                            · refine lv_iload hx hb dX9_odds_161 (lv_at hl 5 rfl) ?_
                              refine lv_iload hx hb dX9_odds_163 (lv_at hl 2 rfl) ?_
                              refine lv_iload hx hb dX9_odds_165 (lv_at hl 10 rfl) ?_
                              refine z_icmp_ne (tgt := 175) hx hb (by omega) dX9_odds_167 (by decide) (fun c_11 => ?_) (fun c_11 => ?_)
                              · refine lv_iconst (v := zI 0) hx hb dX9_odds_175 rfl ?_
                                refine z_iadd hx hb dX9_odds_176 ?_
                                refine lv_istore (lv' := [(6, .int (zI (ab + 0))), (11, .int (zI kk)), (10, .int (zI we)), (9, .int (zI at1)), (8, .int (zI se)), (7, .int (zI be)), (0, .ref hm0), (1, .int (zI t)), (2, .int (zI x)), (3, .int (zI n)), (4, .int (zI w)), (5, .int (zI what))]) hx hb dX9_odds_177 hl (by decide) rfl (fun ls hl => ?_)
                                refine lv_iinc (v := zI (se + 1)) (lv' := [(8, .int (zI (se + 1))), (6, .int (zI (ab + 0))), (11, .int (zI kk)), (10, .int (zI we)), (9, .int (zI at1)), (7, .int (zI be)), (0, .ref hm0), (1, .int (zI t)), (2, .int (zI x)), (3, .int (zI n)), (4, .int (zI w)), (5, .int (zI what))]) hx hb dX9_odds_179 hl (k := 4) rfl (zI_add _ _) (by decide) rfl (fun ls hl => ?_)
                                refine lv_goto (tgt := 80) hx hb dX9_odds_182 (by decide) ?_
                                exact ih80 (se + 1) (ab + 0) H locs ls (by omega) (by rw [tn1 hse.1, oaS, ← hab, show n.toNat = kk.toNat by omega, ← hat, ← hwe]; first | (rw [if_pos (by assumption)]; done) | (rw [if_neg (by assumption)]; done)) (by omega) hP hS (lv_sub hl [0, 5, 1, 6, 7, 8, 9, 10, 11] rfl)
                              · refine lv_iload hx hb dX9_odds_170 (lv_at hl 1 rfl) ?_
                                refine lv_goto (tgt := 176) hx hb dX9_odds_172 (by decide) ?_
                                refine z_iadd hx hb dX9_odds_176 ?_
                                refine lv_istore (lv' := [(6, .int (zI (ab + we))), (11, .int (zI kk)), (10, .int (zI we)), (9, .int (zI at1)), (8, .int (zI se)), (7, .int (zI be)), (0, .ref hm0), (1, .int (zI t)), (2, .int (zI x)), (3, .int (zI n)), (4, .int (zI w)), (5, .int (zI what))]) hx hb dX9_odds_177 hl (by decide) rfl (fun ls hl => ?_)
                                refine lv_iinc (v := zI (se + 1)) (lv' := [(8, .int (zI (se + 1))), (6, .int (zI (ab + we))), (11, .int (zI kk)), (10, .int (zI we)), (9, .int (zI at1)), (7, .int (zI be)), (0, .ref hm0), (1, .int (zI t)), (2, .int (zI x)), (3, .int (zI n)), (4, .int (zI w)), (5, .int (zI what))]) hx hb dX9_odds_179 hl (k := 4) rfl (zI_add _ _) (by decide) rfl (fun ls hl => ?_)
                                refine lv_goto (tgt := 80) hx hb dX9_odds_182 (by decide) ?_
                                exact ih80 (se + 1) (ab + we) H locs ls (by omega) (by rw [tn1 hse.1, oaS, ← hab, show n.toNat = kk.toNat by omega, ← hat, ← hwe]; first | (rw [if_pos (by assumption)]; done) | (rw [if_neg (by assumption)]; done)) (by omega) hP hS (lv_sub hl [0, 5, 1, 6, 7, 8, 9, 10, 11] rfl)
                            · refine lv_iload hx hb dX9_odds_108 (lv_at hl 3 rfl) ?_
                              refine lv_iload hx hb dX9_odds_110 (lv_at hl 0 rfl) ?_
                              refine z_cS (As := [.int (zI se), .int (zI kk)]) (rest := []) ⟨hx, hb, hml, hown, hts⟩ (c_X9_has l G se kk (by first | assumption | omega) (by first | assumption | omega)) (va_cwS 2 hts gX9_odds_X9_has rfl rfl rfl pd_X9_has.2 ⟨(Nat.le_of_ble_eq_true rfl), (Nat.le_of_ble_eq_true rfl)⟩) hK hP hS [] rfl rfl hl.1 rfl (Nat.le_of_ble_eq_true rfl) dX9_odds_112 ⟨Nat.zero_le _, Nat.zero_le _⟩ (fun H locs hP hS => ?_)
                              refine z_ifeq_b (tgt := 123) hx hb dX9_odds_115 (by decide) (fun c_12 => ?_) (fun c_12 => ?_)
                              · refine lv_aload_n hx hb dX9_odds_123 rfl (lv_at hl 6 rfl) ?_
                                refine lv_iload hx hb dX9_odds_124 (lv_at hl 2 rfl) ?_
                                refine lv_iload_n hx hb dX9_odds_126 rfl (lv_at hl 7 rfl) ?_
                                refine z_cV (As := [.int (zI at1), .int (zI t)]) (rest := []) ⟨hx, hb, hml, hown, hts⟩ (c_X9_from l G hm0 S C Wy Li ml ms mw kn mi mk hz mh tr mt tn cu sa to nu wr it sS sC sL sW mq mn mc mr mb at1 t (by first | assumption | omega) (by first | assumption | omega) (by first | assumption | omega)) (cwV 2 hts gX9_odds_X9_from rfl rfl rfl pd_X9_from ⟨(Nat.le_of_ble_eq_true rfl), (Nat.le_of_ble_eq_true rfl)⟩) hK hP hS [0] rfl rfl rfl rfl rfl hl.1 rfl (Nat.le_of_ble_eq_true rfl) dX9_odds_127 ⟨Nat.zero_le _, Nat.zero_le _⟩ (fun H locs hP hS => ?_)
                                have hq_13 := fromZ_rng (C := C) (Wy := Wy) (w := at1) (t := t) ((by first | assumption | omega)) ((by first | assumption | omega)) ((by first | assumption | omega))
                                refine lv_istore (lv' := [(9, .int (zI (fromZ S at1 t))), (11, .int (zI kk)), (10, .int (zI we)), (8, .int (zI se)), (7, .int (zI be)), (6, .int (zI ab)), (0, .ref hm0), (1, .int (zI t)), (2, .int (zI x)), (3, .int (zI n)), (4, .int (zI w)), (5, .int (zI what))]) hx hb dX9_odds_130 hl (by decide) rfl (fun ls hl => ?_)
                                refine lv_iload hx hb dX9_odds_132 (lv_at hl 2 rfl) ?_
                                refine lv_iload hx hb dX9_odds_134 (lv_at hl 3 rfl) ?_
                                refine lv_iload hx hb dX9_odds_136 (lv_at hl 1 rfl) ?_
                                refine z_cS (As := [.int (zI se), .int (zI kk)]) (rest := [.int (zI we)]) ⟨hx, hb, hml, hown, hts⟩ (c_X9_has l G se kk (by first | assumption | omega) (by first | assumption | omega)) (va_cwS 2 hts gX9_odds_X9_has rfl rfl rfl pd_X9_has.2 ⟨(Nat.le_of_ble_eq_true rfl), (Nat.le_of_ble_eq_true rfl)⟩) hK hP hS [] rfl rfl hl.1 rfl (Nat.le_of_ble_eq_true rfl) dX9_odds_138 ⟨Nat.zero_le _, Nat.zero_le _⟩ (fun H locs hP hS => ?_)
                                refine z_ifeq_b (tgt := 148) hx hb dX9_odds_141 (by decide) (fun c_14 => ?_) (fun c_14 => ?_)
                                · refine lv_bipush (v := zI 10) hx hb dX9_odds_148 (by decide) ?_
                                  refine lv_iload_n hx hb dX9_odds_150 rfl (lv_at hl 8 rfl) ?_
                                  refine z_isub hx hb dX9_odds_151 ?_
                                  refine z_imul hx hb dX9_odds_152 ?_
                                  refine lv_istore (lv' := [(10, .int (zI (we * (10 - x)))), (9, .int (zI (fromZ S at1 t))), (11, .int (zI kk)), (8, .int (zI se)), (7, .int (zI be)), (6, .int (zI ab)), (0, .ref hm0), (1, .int (zI t)), (2, .int (zI x)), (3, .int (zI n)), (4, .int (zI w)), (5, .int (zI what))]) hx hb dX9_odds_153 hl (by decide) rfl (fun ls hl => ?_)
                                  refine lv_iinc (v := zI (kk + 1)) (lv' := [(11, .int (zI (kk + 1))), (10, .int (zI (we * (10 - x)))), (9, .int (zI (fromZ S at1 t))), (8, .int (zI se)), (7, .int (zI be)), (6, .int (zI ab)), (0, .ref hm0), (1, .int (zI t)), (2, .int (zI x)), (3, .int (zI n)), (4, .int (zI w)), (5, .int (zI what))]) hx hb dX9_odds_155 hl (k := 2) rfl (zI_add _ _) (by decide) rfl (fun ls hl => ?_)
                                  refine lv_goto (tgt := 102) hx hb dX9_odds_158 (by decide) ?_
                                  exact ih102 (kk + 1) (fromZ S at1 t) (we * (10 - x)) H locs ls (by omega) (by omega) (by rw [tn1 hkk.1, oaI, ← hat]; first | (rw [if_pos (by assumption)]; done) | (rw [if_neg (by assumption)]; done)) (by rw [tn1 hkk.1, owI, ← hwe]; first | (rw [if_pos (by assumption)]; done) | (rw [if_neg (by assumption)]; done)) (by omega) hP hS (lv_sub hl [0, 1, 2, 3, 4, 5, 6, 7, 8, 9, 10, 11] rfl)
                                · refine lv_iload_n hx hb dX9_odds_144 rfl (lv_at hl 8 rfl) ?_
                                  refine lv_goto (tgt := 152) hx hb dX9_odds_145 (by decide) ?_
                                  refine z_imul hx hb dX9_odds_152 ?_
                                  refine lv_istore (lv' := [(10, .int (zI (we * x))), (9, .int (zI (fromZ S at1 t))), (11, .int (zI kk)), (8, .int (zI se)), (7, .int (zI be)), (6, .int (zI ab)), (0, .ref hm0), (1, .int (zI t)), (2, .int (zI x)), (3, .int (zI n)), (4, .int (zI w)), (5, .int (zI what))]) hx hb dX9_odds_153 hl (by decide) rfl (fun ls hl => ?_)
                                  refine lv_iinc (v := zI (kk + 1)) (lv' := [(11, .int (zI (kk + 1))), (10, .int (zI (we * x))), (9, .int (zI (fromZ S at1 t))), (8, .int (zI se)), (7, .int (zI be)), (6, .int (zI ab)), (0, .ref hm0), (1, .int (zI t)), (2, .int (zI x)), (3, .int (zI n)), (4, .int (zI w)), (5, .int (zI what))]) hx hb dX9_odds_155 hl (k := 2) rfl (zI_add _ _) (by decide) rfl (fun ls hl => ?_)
                                  refine lv_goto (tgt := 102) hx hb dX9_odds_158 (by decide) ?_
                                  exact ih102 (kk + 1) (fromZ S at1 t) (we * x) H locs ls (by omega) (by omega) (by rw [tn1 hkk.1, oaI, ← hat]; first | (rw [if_pos (by assumption)]; done) | (rw [if_neg (by assumption)]; done)) (by rw [tn1 hkk.1, owI, ← hwe]; first | (rw [if_pos (by assumption)]; done) | (rw [if_neg (by assumption)]; done)) (by omega) hP hS (lv_sub hl [0, 1, 2, 3, 4, 5, 6, 7, 8, 9, 10, 11] rfl)
                              · refine lv_iload hx hb dX9_odds_118 (lv_at hl 2 rfl) ?_
                                refine lv_goto (tgt := 130) hx hb dX9_odds_120 (by decide) ?_
                                refine lv_istore (lv' := [(9, .int (zI at1)), (11, .int (zI kk)), (10, .int (zI we)), (8, .int (zI se)), (7, .int (zI be)), (6, .int (zI ab)), (0, .ref hm0), (1, .int (zI t)), (2, .int (zI x)), (3, .int (zI n)), (4, .int (zI w)), (5, .int (zI what))]) hx hb dX9_odds_130 hl (by decide) rfl (fun ls hl => ?_)
                                refine lv_iload hx hb dX9_odds_132 (lv_at hl 2 rfl) ?_
                                refine lv_iload hx hb dX9_odds_134 (lv_at hl 3 rfl) ?_
                                refine lv_iload hx hb dX9_odds_136 (lv_at hl 1 rfl) ?_
                                refine z_cS (As := [.int (zI se), .int (zI kk)]) (rest := [.int (zI we)]) ⟨hx, hb, hml, hown, hts⟩ (c_X9_has l G se kk (by first | assumption | omega) (by first | assumption | omega)) (va_cwS 2 hts gX9_odds_X9_has rfl rfl rfl pd_X9_has.2 ⟨(Nat.le_of_ble_eq_true rfl), (Nat.le_of_ble_eq_true rfl)⟩) hK hP hS [] rfl rfl hl.1 rfl (Nat.le_of_ble_eq_true rfl) dX9_odds_138 ⟨Nat.zero_le _, Nat.zero_le _⟩ (fun H locs hP hS => ?_)
                                refine z_ifeq_b (tgt := 148) hx hb dX9_odds_141 (by decide) (fun c_15 => ?_) (fun c_15 => ?_)
                                · refine lv_bipush (v := zI 10) hx hb dX9_odds_148 (by decide) ?_
                                  refine lv_iload_n hx hb dX9_odds_150 rfl (lv_at hl 8 rfl) ?_
                                  refine z_isub hx hb dX9_odds_151 ?_
                                  refine z_imul hx hb dX9_odds_152 ?_
                                  refine lv_istore (lv' := [(10, .int (zI (we * (10 - x)))), (9, .int (zI at1)), (11, .int (zI kk)), (8, .int (zI se)), (7, .int (zI be)), (6, .int (zI ab)), (0, .ref hm0), (1, .int (zI t)), (2, .int (zI x)), (3, .int (zI n)), (4, .int (zI w)), (5, .int (zI what))]) hx hb dX9_odds_153 hl (by decide) rfl (fun ls hl => ?_)
                                  refine lv_iinc (v := zI (kk + 1)) (lv' := [(11, .int (zI (kk + 1))), (10, .int (zI (we * (10 - x)))), (9, .int (zI at1)), (8, .int (zI se)), (7, .int (zI be)), (6, .int (zI ab)), (0, .ref hm0), (1, .int (zI t)), (2, .int (zI x)), (3, .int (zI n)), (4, .int (zI w)), (5, .int (zI what))]) hx hb dX9_odds_155 hl (k := 2) rfl (zI_add _ _) (by decide) rfl (fun ls hl => ?_)
                                  refine lv_goto (tgt := 102) hx hb dX9_odds_158 (by decide) ?_
                                  exact ih102 (kk + 1) at1 (we * (10 - x)) H locs ls (by omega) (by omega) (by rw [tn1 hkk.1, oaI, ← hat]; first | (rw [if_pos (by assumption)]; done) | (rw [if_neg (by assumption)]; done)) (by rw [tn1 hkk.1, owI, ← hwe]; first | (rw [if_pos (by assumption)]; done) | (rw [if_neg (by assumption)]; done)) (by omega) hP hS (lv_sub hl [0, 1, 2, 3, 4, 5, 6, 7, 8, 9, 10, 11] rfl)
                                · refine lv_iload_n hx hb dX9_odds_144 rfl (lv_at hl 8 rfl) ?_
                                  refine lv_goto (tgt := 152) hx hb dX9_odds_145 (by decide) ?_
                                  refine z_imul hx hb dX9_odds_152 ?_
                                  refine lv_istore (lv' := [(10, .int (zI (we * x))), (9, .int (zI at1)), (11, .int (zI kk)), (8, .int (zI se)), (7, .int (zI be)), (6, .int (zI ab)), (0, .ref hm0), (1, .int (zI t)), (2, .int (zI x)), (3, .int (zI n)), (4, .int (zI w)), (5, .int (zI what))]) hx hb dX9_odds_153 hl (by decide) rfl (fun ls hl => ?_)
                                  refine lv_iinc (v := zI (kk + 1)) (lv' := [(11, .int (zI (kk + 1))), (10, .int (zI (we * x))), (9, .int (zI at1)), (8, .int (zI se)), (7, .int (zI be)), (6, .int (zI ab)), (0, .ref hm0), (1, .int (zI t)), (2, .int (zI x)), (3, .int (zI n)), (4, .int (zI w)), (5, .int (zI what))]) hx hb dX9_odds_155 hl (k := 2) rfl (zI_add _ _) (by decide) rfl (fun ls hl => ?_)
                                  refine lv_goto (tgt := 102) hx hb dX9_odds_158 (by decide) ?_
                                  exact ih102 (kk + 1) at1 (we * x) H locs ls (by omega) (by omega) (by rw [tn1 hkk.1, oaI, ← hat]; first | (rw [if_pos (by assumption)]; done) | (rw [if_neg (by assumption)]; done)) (by rw [tn1 hkk.1, owI, ← hwe]; first | (rw [if_pos (by assumption)]; done) | (rw [if_neg (by assumption)]; done)) (by omega) hP hS (lv_sub hl [0, 1, 2, 3, 4, 5, 6, 7, 8, 9, 10, 11] rfl)
                        exact loop102 _ 0 (sf 1) 1 H locs ls (by omega) (by omega) rfl rfl (Nat.lt_succ_self _) hP hS (lv_sub hl [0, 1, 2, 3, 4, 5, 6, 7, 8, 9, 10, 11] rfl)
                  exact loop80 _ 0 0 H locs ls (by exact ⟨Int.le_refl _, Int.natCast_nonneg _⟩) rfl (Nat.lt_succ_self _) hP hS (lv_sub hl [0, 1, 2, 3, 4, 5, 6, 7, 8] rfl)
                · refine lv_iload hx hb dX9_odds_64 (lv_at hl 1 rfl) ?_
                  refine lv_bipush (v := zI 10) hx hb dX9_odds_66 (by decide) ?_
                  refine z_imul hx hb dX9_odds_68 ?_
                  refine lv_istore (lv' := [(7, .int (zI (be * 10))), (8, .int (zI k)), (6, .int (zI 0)), (0, .ref hm0), (1, .int (zI t)), (2, .int (zI x)), (3, .int (zI n)), (4, .int (zI w)), (5, .int (zI what))]) hx hb dX9_odds_69 hl (by decide) rfl (fun ls hl => ?_)
                  refine lv_iinc (v := zI (k + 1)) (lv' := [(8, .int (zI (k + 1))), (7, .int (zI (be * 10))), (6, .int (zI 0)), (0, .ref hm0), (1, .int (zI t)), (2, .int (zI x)), (3, .int (zI n)), (4, .int (zI w)), (5, .int (zI what))]) hx hb dX9_odds_71 hl (k := 1) rfl (zI_add _ _) (by decide) rfl (fun ls hl => ?_)
                  refine lv_goto (tgt := 58) hx hb dX9_odds_74 (by decide) ?_
                  exact ih58 (k + 1) (be * 10) H locs ls (by omega) (by rw [tn1 hk.1, pwZ, ← hbe]) (by omega) hP hS (lv_sub hl [0, 1, 2, 3, 4, 5, 6, 7, 8] rfl)
            exact loop58 _ 0 1 H locs ls (by omega) rfl (Nat.lt_succ_self _) hP hS (lv_sub hl [0, 1, 2, 3, 4, 5, 6, 7, 8] rfl)
          · refine lv_iconst (v := zI (-1)) hx hb dX9_odds_47 rfl ?_
            exact hret H locs ls 48 _ (congrArg zI (by rw [if_pos (by omega)])) hS dX9_odds_48
