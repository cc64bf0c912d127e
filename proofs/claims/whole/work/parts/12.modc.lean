
theorem cp15 {nf sf : Int → Int} {j : Int} (h : 0 ≤ j ∧ j < 15) : cpK nf 0 sf 0 15 j = sf j := by
  unfold cpK
  rw [if_pos ⟨by omega, by omega⟩]
  congr 1
  omega
theorem cpg {nf sf : Int → Int} {k : Nat} (hk : k ≤ 12) : grZ (fun i => cpK nf 0 sf 0 15 (3 + i)) k = grZ (fun i => sf (3 + i)) k := grZ_cong k (fun i h1 h2 => cp15 ⟨by omega, by omega⟩)
theorem goes_eq {nf sf ld : Int → Int} {j : Int} (hl : 0 ≤ sf 1 ∧ sf 1 < 12) (hj : 0 ≤ j ∧ j < 15) : uZ (uZ (cpK nf 0 sf 0 15) (3 + cpK nf 0 sf 0 15 1) (if 999 < cpK nf 0 sf 0 15 (3 + cpK nf 0 sf 0 15 1) + ld (cpK nf 0 sf 0 15 1) then 999 else cpK nf 0 sf 0 15 (3 + cpK nf 0 sf 0 15 1) + ld (cpK nf 0 sf 0 15 1))) 0 (cpK nf 0 sf 0 15 0 + 1) j = uZ (uZ sf (3 + sf 1) (if 999 < sf (3 + sf 1) + ld (sf 1) then 999 else sf (3 + sf 1) + ld (sf 1))) 0 (sf 0 + 1) j := by
  rw [cp15 (j := 1) (by omega), cp15 (j := 0) (by omega), cp15 (j := 3 + sf 1) (by omega)]
  unfold uZ
  split
  · rfl
  · split
    · rfl
    · exact cp15 hj
def agS (S t : Int) (n : Nat) : Nat → Bool
  | 0 => true
  | w + 1 => agS S t n w && decide (wyI S t (w : Int) n = (w : Int))
def agG (S t : Int) (W : Nat) : Nat → Nat → Int
  | 0, _ => 12
  | f + 1, n => if agS S t n W = true then (n : Int) else agG S t W f (n + 1)
def agZ (S t : Int) (W : Nat) : Int := agG S t W 12 1
theorem agG_rng (S t : Int) (W : Nat) : ∀ f n : Nat, 1 ≤ n → n + f ≤ 13 → 1 ≤ agG S t W f n ∧ agG S t W f n ≤ 12
  | 0, n, h1, h2 => by simp [agG]
  | f + 1, n, h1, h2 => by
    have h := agG_rng S t W f (n + 1) (by omega) (by omega)
    unfold agG
    split <;> omega

theorem pd_X9_season : yX9_season.cls = RX9 ∧ yX9_season.cls ≠ "java/lang/invoke/MethodHandle" ∧ yX9_season.cls ≠ "java/lang/invoke/VarHandle" ∧ (parseMethodDescriptor yX9_season.desc).map (fun d => d.parameters.length) = some 0 := by decide +kernel
abbrev rmX9_season : Room := { frames := 2, cells := 0, slots := 0, locals := 45 }
set_option maxHeartbeats 4000000 in
set_option maxRecDepth 100000 in
theorem c_X9_season (l : Launch) (G : CX) (hm0 : Nat) (S : Int) (C : Int) (Wy : Int) (Li : Int) (ml : Nat) (ms : Nat) (mw : Nat) (kn : Int) (mi : Nat) (mk : Nat) (hz : Int) (mh : Nat) (tr : Int64) (mt : Nat) (tn : Int) (cu : Int) (sa : Int) (to : Int) (nu : Int) (wr : Int) (it : Int) (sS : Int) (sC : Int) (sL : Int) (sW : Int) (mq : Nat) (mn : Nat) (mc : Nat) (mr : Nat) (mb : Nat) (nf : Int → Int) (sf : Int → Int) (wf : Int → Int) (ld : Int → Int) (hB : (2 ≤ S ∧ S ≤ 6) ∧ (C = 1 ∧ Wy = S ∨ C = 2 ∧ Wy = 2 * S)) (hkn : 0 ≤ kn ∧ kn ≤ 10) (hLi : 5 ≤ Li ∧ Li ≤ 99) (hl1 : 0 ≤ sf 1 ∧ sf 1 < Wy) (hsr : ∀ i : Int, 0 ≤ i → i < 12 → 0 ≤ sf (3 + i) ∧ sf (3 + i) ≤ 999) (hld : ∀ i : Int, 0 ≤ i → i < 12 → 1 ≤ ld i ∧ ld i ≤ 9) (hs0 : 0 ≤ sf 0 ∧ sf 0 ≤ 999) : Met l yX9_season wsX9_season rmX9_season (wrP G [.ref hm0] [(hm0, .inr (9, [.int (zI S), .int (zI C), .int (zI Wy), .int (zI Li), .ref ml, .ref ms, .ref mw, .int (zI kn), .ref mi, .ref mk, .int (zI hz), .ref mh, .long tr, .ref mt, .int (zI tn), .int (zI cu), .int (zI sa), .int (zI to), .int (zI nu), .int (zI wr), .int (zI it), .int (zI sS), .int (zI sC), .int (zI sL), .int (zI sW), .ref mq, .ref mn, .ref mc, .ref mr, .ref mb])), (mn, .inl (G.2.1, 15, .inl (aZ nf))), (ms, .inl (G.2.1, 15, .inl (aZ sf))), (mw, .inl (G.2.1, 150, .inl (aZ wf))), (ml, .inl (G.2.1, 12, .inl (aZ ld)))]) (wrQ G [(hm0, .inr (9, [.int (zI S), .int (zI C), .int (zI Wy), .int (zI Li), .ref ml, .ref ms, .ref mw, .int (zI kn), .ref mi, .ref mk, .int (zI hz), .ref mh, .long tr, .ref mt, .int (zI tn), .int (zI cu), .int (zI sa), .int (zI to), .int (zI nu), .int (zI wr), .int (zI it), .int (zI sS), .int (zI sC), .int (zI sL), .int (zI sW), .ref mq, .ref mn, .ref mc, .ref mr, .ref mb])), (mn, .inl (G.2.1, 15, .inl (aZ nf))), (ms, .inl (G.2.1, 15, .inl (aZ sf))), (mw, .inl (G.2.1, 150, .inl (aZ wf))), (ml, .inl (G.2.1, 12, .inl (aZ ld)))] (fun (r_ : Int32) (u : Int × (Int → Int) × (Int → Int) × (Int → Int)) => match u with | (kn2, nf2, sf2, wf2) => r_ = zI (if (Li ≤ grZ (fun i => sf (3 + i)) Wy.toNat ∨ sf 0 = 999) then -2 else (if 999 < sf (3 + sf 1) + ld (sf 1) then 999 else sf (3 + sf 1) + ld (sf 1))) ∧ (((Li ≤ grZ (fun i => sf (3 + i)) Wy.toNat ∨ sf 0 = 999) → kn2 = kn ∧ sf2 = sf ∧ wf2 = wf) ∧ (¬ (Li ≤ grZ (fun i => sf (3 + i)) Wy.toNat ∨ sf 0 = 999) → kn2 = knR kn ∧ wf2 = wfR kn wf sf ∧ ∀ j : Int, 0 ≤ j → j < 15 → sf2 j = uZ (uZ sf (3 + sf 1) (if 999 < sf (3 + sf 1) + ld (sf 1) then 999 else sf (3 + sf 1) + ld (sf 1))) 0 (sf 0 + 1) j))) (fun (u : Int × (Int → Int) × (Int → Int) × (Int → Int)) => match u with | (kn2, nf2, sf2, wf2) => [(hm0, .inr (9, [.int (zI S), .int (zI C), .int (zI Wy), .int (zI Li), .ref ml, .ref ms, .ref mw, .int (zI kn2), .ref mi, .ref mk, .int (zI hz), .ref mh, .long tr, .ref mt, .int (zI tn), .int (zI cu), .int (zI sa), .int (zI to), .int (zI nu), .int (zI wr), .int (zI it), .int (zI sS), .int (zI sC), .int (zI sL), .int (zI sW), .ref mq, .ref mn, .ref mc, .ref mr, .ref mb])), (mn, .inl (G.2.1, 15, .inl (aZ nf2))), (ms, .inl (G.2.1, 15, .inl (aZ sf2))), (mw, .inl (G.2.1, 150, .inl (aZ wf2))), (ml, .inl (G.2.1, 12, .inl (aZ ld)))])) 0 0 (wrA [(hm0, .inr (9, [.int (zI S), .int (zI C), .int (zI Wy), .int (zI Li), .ref ml, .ref ms, .ref mw, .int (zI kn), .ref mi, .ref mk, .int (zI hz), .ref mh, .long tr, .ref mt, .int (zI tn), .int (zI cu), .int (zI sa), .int (zI to), .int (zI nu), .int (zI wr), .int (zI it), .int (zI sS), .int (zI sC), .int (zI sL), .int (zI sW), .ref mq, .ref mn, .ref mc, .ref mr, .ref mb])), (mn, .inl (G.2.1, 15, .inl (aZ nf))), (ms, .inl (G.2.1, 15, .inl (aZ sf))), (mw, .inl (G.2.1, 150, .inl (aZ wf))), (ml, .inl (G.2.1, 12, .inl (aZ ld)))]) := by
  refine wr_ofW (cc := cX9_season) (maxL := 2) (ty := .int) (by decide) rfl (Nat.le_of_ble_eq_true rfl) ?_
  intro p e s m below meth c Q A hx hb hml hown hts hK hret H locs hP hD hS ls hl
  have hown : s.vm.findClass RX9 = some m.cls := hown
  have hl : lv_has ls 2 [(0, .ref hm0)] := hl
  have f26 := hts (.fieldLink RX9 26 "QuarterTurnsModel" "st" "[I") (by decide +kernel)
  have i9 : ∀ w ∈ wsX90, w ∈ wsX9_season := fun w h => List.mem_cons_of_mem _ (List.mem_append_right _ h)
  have f48 := hts (.fieldLink RX9 48 "QuarterTurnsModel" "now" "[I") (by decide +kernel)
  have hgg := cpg (nf := nf) (sf := sf) (k := Wy.toNat) (by omega)
  refine lv_aload_n hx hb dX9_season_0 rfl (lv_at hl 0 rfl) ?_
  refine z_wVv (As := []) (rest := []) ⟨hx, hb, hml, hown, hts⟩ (c_X9_asItIs l G hm0 S C Wy Li ml ms mw kn mi mk hz mh tr mt tn cu sa to nu wr it sS sC sL sW mq mn mc mr mb nf sf ) (cwV 0 hts gX9_season_X9_asItIs rfl rfl rfl pd_X9_asItIs ⟨(Nat.le_of_ble_eq_true rfl), (Nat.le_of_ble_eq_true rfl)⟩) hK hP hD hS [0, 1, 2] (by decide) rfl rfl rfl rfl (fun _ => Eq.trans (b := [hm0, mn, ms]) rfl rfl) rfl hl.1 rfl (Nat.le_of_ble_eq_true rfl) dX9_season_1 ⟨Nat.zero_le _, Nat.zero_le _⟩ (fun u_ H locs hw_1 hP hD hS => ?_)
  try dsimp only at hw_1
  have hP : kP G [(hm0, .inr (9, [.int (zI S), .int (zI C), .int (zI Wy), .int (zI Li), .ref ml, .ref ms, .ref mw, .int (zI kn), .ref mi, .ref mk, .int (zI hz), .ref mh, .long tr, .ref mt, .int (zI tn), .int (zI cu), .int (zI sa), .int (zI to), .int (zI nu), .int (zI wr), .int (zI it), .int (zI sS), .int (zI sC), .int (zI sL), .int (zI sW), .ref mq, .ref mn, .ref mc, .ref mr, .ref mb])), (mn, .inl (G.2.1, 15, .inl (aZ (cpK nf 0 sf 0 15)))), (ms, .inl (G.2.1, 15, .inl (aZ sf))), (mw, .inl (G.2.1, 150, .inl (aZ wf))), (ml, .inl (G.2.1, 12, .inl (aZ ld)))] H := hP
  have hD : va_D A [(hm0, .inr (9, [.int (zI S), .int (zI C), .int (zI Wy), .int (zI Li), .ref ml, .ref ms, .ref mw, .int (zI kn), .ref mi, .ref mk, .int (zI hz), .ref mh, .long tr, .ref mt, .int (zI tn), .int (zI cu), .int (zI sa), .int (zI to), .int (zI nu), .int (zI wr), .int (zI it), .int (zI sS), .int (zI sC), .int (zI sL), .int (zI sW), .ref mq, .ref mn, .ref mc, .ref mr, .ref mb])), (mn, .inl (G.2.1, 15, .inl (aZ (cpK nf 0 sf 0 15)))), (ms, .inl (G.2.1, 15, .inl (aZ sf))), (mw, .inl (G.2.1, 150, .inl (aZ wf))), (ml, .inl (G.2.1, 12, .inl (aZ ld)))] := hD
  refine lv_aload_n hx hb dX9_season_4 rfl (lv_at hl 0 rfl) ?_
  refine z_cV (As := []) (rest := []) ⟨hx, hb, hml, hown, hts⟩ (c_X9_isOut l G hm0 S C Wy Li ml ms mw kn mi mk hz mh tr mt tn cu sa to nu wr it sS sC sL sW mq mn mc mr mb (cpK nf 0 sf 0 15) (by first | assumption | omega) (by exact fun i h1 h2 => by rw [cp15 (by omega)]; exact hsr i h1 h2) (by first | assumption | omega)) (cwV 0 hts gX9_season_X9_isOut rfl rfl rfl pd_X9_isOut ⟨(Nat.le_of_ble_eq_true rfl), (Nat.le_of_ble_eq_true rfl)⟩) hK hP hS [0, 1] rfl rfl rfl rfl rfl hl.1 rfl (Nat.le_of_ble_eq_true rfl) dX9_season_5 ⟨Nat.zero_le _, Nat.zero_le _⟩ (fun H locs hP hS => ?_)
  refine z_ifne_b (tgt := 23) hx hb dX9_season_8 (by decide) (fun c_2 => ?_) (fun c_2 => ?_)
  · refine lv_bipush (v := zI (-2)) hx hb dX9_season_23 (by decide) ?_
    exact hret H locs ls 25 _ (kn, cpK nf 0 sf 0 15, sf, wf) rfl ⟨congrArg zI (by rw [if_pos (by omega)]), by refine ⟨fun h => ⟨rfl, rfl, rfl⟩, fun h => ?_⟩; omega⟩ hP hS dX9_season_25
  · refine lv_aload_n hx hb dX9_season_11 rfl (lv_at hl 0 rfl) ?_
    refine va_get (ci := 9) (v := .ref ms) (C := RX9) (T := TX9) (N := 30) hx hb hts i9 hown hK hP 0 rfl rfl 5 (by decide) f26 (fun _ h9 => h9) rfl dX9_season_12 ?_
    refine lv_iconst (v := zI 0) hx hb dX9_season_15 rfl ?_
    refine z_iald (n := 15) (f := sf) hx hb hK hP 2 rfl (by omega) dX9_season_16 ?_
    refine lv_sipush (v := zI 999) hx hb dX9_season_17 (by decide) ?_
    refine z_icmp_ne (tgt := 26) hx hb (by omega) dX9_season_20 (by decide) (fun c_3 => ?_) (fun c_3 => ?_)
    · refine lv_aload_n hx hb dX9_season_26 rfl (lv_at hl 0 rfl) ?_
      refine z_wVv (As := []) (rest := []) ⟨hx, hb, hml, hown, hts⟩ (c_X9_remembers l G hm0 S C Wy Li ml ms mw kn mi mk hz mh tr mt tn cu sa to nu wr it sS sC sL sW mq mn mc mr mb wf sf (by first | assumption | omega)) (cwV 0 hts gX9_season_X9_remembers rfl rfl rfl pd_X9_remembers ⟨(Nat.le_of_ble_eq_true rfl), (Nat.le_of_ble_eq_true rfl)⟩) hK hP hD hS [0, 3, 2] (by decide) rfl rfl rfl rfl (fun _ => Eq.trans (b := [hm0, mw, ms]) rfl rfl) rfl hl.1 rfl (Nat.le_of_ble_eq_true rfl) dX9_season_27 ⟨Nat.zero_le _, Nat.zero_le _⟩ (fun u_ H locs hw_6 hP hD hS => ?_)
      obtain ⟨kn2_4, wf2_5⟩ := u_
      try dsimp only at hw_6
      obtain ⟨rfl, rfl⟩ := hw_6
      have hP : kP G [(hm0, .inr (9, [.int (zI S), .int (zI C), .int (zI Wy), .int (zI Li), .ref ml, .ref ms, .ref mw, .int (zI (knR kn)), .ref mi, .ref mk, .int (zI hz), .ref mh, .long tr, .ref mt, .int (zI tn), .int (zI cu), .int (zI sa), .int (zI to), .int (zI nu), .int (zI wr), .int (zI it), .int (zI sS), .int (zI sC), .int (zI sL), .int (zI sW), .ref mq, .ref mn, .ref mc, .ref mr, .ref mb])), (mn, .inl (G.2.1, 15, .inl (aZ (cpK nf 0 sf 0 15)))), (ms, .inl (G.2.1, 15, .inl (aZ sf))), (mw, .inl (G.2.1, 150, .inl (aZ (wfR kn wf sf)))), (ml, .inl (G.2.1, 12, .inl (aZ ld)))] H := hP
      have hD : va_D A [(hm0, .inr (9, [.int (zI S), .int (zI C), .int (zI Wy), .int (zI Li), .ref ml, .ref ms, .ref mw, .int (zI (knR kn)), .ref mi, .ref mk, .int (zI hz), .ref mh, .long tr, .ref mt, .int (zI tn), .int (zI cu), .int (zI sa), .int (zI to), .int (zI nu), .int (zI wr), .int (zI it), .int (zI sS), .int (zI sC), .int (zI sL), .int (zI sW), .ref mq, .ref mn, .ref mc, .ref mr, .ref mb])), (mn, .inl (G.2.1, 15, .inl (aZ (cpK nf 0 sf 0 15)))), (ms, .inl (G.2.1, 15, .inl (aZ sf))), (mw, .inl (G.2.1, 150, .inl (aZ (wfR kn wf sf)))), (ml, .inl (G.2.1, 12, .inl (aZ ld)))] := hD
      refine lv_aload_n hx hb dX9_season_30 rfl (lv_at hl 0 rfl) ?_
      refine z_wV (As := []) (rest := []) ⟨hx, hb, hml, hown, hts⟩ (c_X9_goes l G hm0 S C Wy Li ml ms mw (knR kn) mi mk hz mh tr mt tn cu sa to nu wr it sS sC sL sW mq mn mc mr mb (cpK nf 0 sf 0 15) ld (by first | assumption | omega) (by rw [cp15 (by omega)]; exact hl1) (by exact fun i h1 h2 => by rw [cp15 (by omega)]; exact hsr i h1 h2) (by first | assumption | omega)) (cwV 0 hts gX9_season_X9_goes rfl rfl rfl pd_X9_goes ⟨(Nat.le_of_ble_eq_true rfl), (Nat.le_of_ble_eq_true rfl)⟩) hK hP hD hS [0, 1, 4] (by decide) rfl rfl rfl rfl (fun _ => Eq.trans (b := [hm0, mn, ml]) rfl rfl) rfl hl.1 rfl (Nat.le_of_ble_eq_true rfl) dX9_season_31 ⟨Nat.zero_le _, Nat.zero_le _⟩ (fun r_ u_ H locs hw_8 hP hD hS => ?_)
      obtain ⟨nf2_7, rfl⟩ : ∃ z, z = u_ := ⟨_, rfl⟩
      obtain ⟨rfl, hw_8⟩ := hw_8
      try dsimp only at hw_8
      obtain rfl := hw_8
      have hP : kP G [(hm0, .inr (9, [.int (zI S), .int (zI C), .int (zI Wy), .int (zI Li), .ref ml, .ref ms, .ref mw, .int (zI (knR kn)), .ref mi, .ref mk, .int (zI hz), .ref mh, .long tr, .ref mt, .int (zI tn), .int (zI cu), .int (zI sa), .int (zI to), .int (zI nu), .int (zI wr), .int (zI it), .int (zI sS), .int (zI sC), .int (zI sL), .int (zI sW), .ref mq, .ref mn, .ref mc, .ref mr, .ref mb])), (mn, .inl (G.2.1, 15, .inl (aZ (uZ (uZ (cpK nf 0 sf 0 15) (3 + (cpK nf 0 sf 0 15) 1) (if 999 < (cpK nf 0 sf 0 15) (3 + (cpK nf 0 sf 0 15) 1) + ld ((cpK nf 0 sf 0 15) 1) then 999 else (cpK nf 0 sf 0 15) (3 + (cpK nf 0 sf 0 15) 1) + ld ((cpK nf 0 sf 0 15) 1))) 0 ((cpK nf 0 sf 0 15) 0 + 1))))), (ms, .inl (G.2.1, 15, .inl (aZ sf))), (mw, .inl (G.2.1, 150, .inl (aZ (wfR kn wf sf)))), (ml, .inl (G.2.1, 12, .inl (aZ ld)))] H := hP
      have hD : va_D A [(hm0, .inr (9, [.int (zI S), .int (zI C), .int (zI Wy), .int (zI Li), .ref ml, .ref ms, .ref mw, .int (zI (knR kn)), .ref mi, .ref mk, .int (zI hz), .ref mh, .long tr, .ref mt, .int (zI tn), .int (zI cu), .int (zI sa), .int (zI to), .int (zI nu), .int (zI wr), .int (zI it), .int (zI sS), .int (zI sC), .int (zI sL), .int (zI sW), .ref mq, .ref mn, .ref mc, .ref mr, .ref mb])), (mn, .inl (G.2.1, 15, .inl (aZ (uZ (uZ (cpK nf 0 sf 0 15) (3 + (cpK nf 0 sf 0 15) 1) (if 999 < (cpK nf 0 sf 0 15) (3 + (cpK nf 0 sf 0 15) 1) + ld ((cpK nf 0 sf 0 15) 1) then 999 else (cpK nf 0 sf 0 15) (3 + (cpK nf 0 sf 0 15) 1) + ld ((cpK nf 0 sf 0 15) 1))) 0 ((cpK nf 0 sf 0 15) 0 + 1))))), (ms, .inl (G.2.1, 15, .inl (aZ sf))), (mw, .inl (G.2.1, 150, .inl (aZ (wfR kn wf sf)))), (ml, .inl (G.2.1, 12, .inl (aZ ld)))] := hD
      refine lv_istore_n (lv' := [(1, .int (zI (if 999 < (cpK nf 0 sf 0 15) (3 + (cpK nf 0 sf 0 15) 1) + ld ((cpK nf 0 sf 0 15) 1) then 999 else (cpK nf 0 sf 0 15) (3 + (cpK nf 0 sf 0 15) 1) + ld ((cpK nf 0 sf 0 15) 1)))), (0, .ref hm0)]) hx hb dX9_season_34 rfl hl (by decide) rfl (fun ls hl => ?_)
      refine lv_aload_n hx hb dX9_season_35 rfl (lv_at hl 1 rfl) ?_
      refine va_get (ci := 9) (v := .ref ms) (C := RX9) (T := TX9) (N := 30) hx hb hts i9 hown hK hP 0 rfl rfl 5 (by decide) f26 (fun _ h9 => h9) rfl dX9_season_36 ?_
      refine lv_iconst (v := zI 0) hx hb dX9_season_39 rfl ?_
      refine lv_aload_n hx hb dX9_season_40 rfl (lv_at hl 1 rfl) ?_
      refine va_get (ci := 9) (v := .ref mn) (C := RX9) (T := TX9) (N := 30) hx hb hts i9 hown hK hP 0 rfl rfl 26 (by decide) f48 (fun _ h9 => h9) rfl dX9_season_41 ?_
      refine lv_iconst (v := zI 0) hx hb dX9_season_44 rfl ?_
      refine z_wSv (As := [.ref ms, .int (zI 0), .ref mn, .int (zI 0)]) (rest := []) ⟨hx, hb, hml, hown, hts⟩ (c_X9_copy l G ms 15 sf 0 mn 15 (uZ (uZ (cpK nf 0 sf 0 15) (3 + (cpK nf 0 sf 0 15) 1) (if 999 < (cpK nf 0 sf 0 15) (3 + (cpK nf 0 sf 0 15) 1) + ld ((cpK nf 0 sf 0 15) 1) then 999 else (cpK nf 0 sf 0 15) (3 + (cpK nf 0 sf 0 15) 1) + ld ((cpK nf 0 sf 0 15) 1))) 0 ((cpK nf 0 sf 0 15) 0 + 1)) 0 (by first | assumption | omega)) (va_cwS 4 hts gX9_season_X9_copy rfl rfl rfl pd_X9_copy.2 ⟨(Nat.le_of_ble_eq_true rfl), (Nat.le_of_ble_eq_true rfl)⟩) hK hP hD hS [2, 1] (by decide) rfl (fun _ => rfl) rfl hl.1 rfl (Nat.le_of_ble_eq_true rfl) dX9_season_45 ⟨Nat.zero_le _, Nat.zero_le _⟩ (fun u_ H locs hw_10 hP hD hS => ?_)
      obtain ⟨g2_9, rfl⟩ : ∃ z, z = u_ := ⟨_, rfl⟩
      try dsimp only at hw_10
      obtain rfl := hw_10
      have hP : kP G [(hm0, .inr (9, [.int (zI S), .int (zI C), .int (zI Wy), .int (zI Li), .ref ml, .ref ms, .ref mw, .int (zI (knR kn)), .ref mi, .ref mk, .int (zI hz), .ref mh, .long tr, .ref mt, .int (zI tn), .int (zI cu), .int (zI sa), .int (zI to), .int (zI nu), .int (zI wr), .int (zI it), .int (zI sS), .int (zI sC), .int (zI sL), .int (zI sW), .ref mq, .ref mn, .ref mc, .ref mr, .ref mb])), (mn, .inl (G.2.1, 15, .inl (aZ (uZ (uZ (cpK nf 0 sf 0 15) (3 + (cpK nf 0 sf 0 15) 1) (if 999 < (cpK nf 0 sf 0 15) (3 + (cpK nf 0 sf 0 15) 1) + ld ((cpK nf 0 sf 0 15) 1) then 999 else (cpK nf 0 sf 0 15) (3 + (cpK nf 0 sf 0 15) 1) + ld ((cpK nf 0 sf 0 15) 1))) 0 ((cpK nf 0 sf 0 15) 0 + 1))))), (ms, .inl (G.2.1, 15, .inl (aZ (cpK sf 0 (uZ (uZ (cpK nf 0 sf 0 15) (3 + (cpK nf 0 sf 0 15) 1) (if 999 < (cpK nf 0 sf 0 15) (3 + (cpK nf 0 sf 0 15) 1) + ld ((cpK nf 0 sf 0 15) 1) then 999 else (cpK nf 0 sf 0 15) (3 + (cpK nf 0 sf 0 15) 1) + ld ((cpK nf 0 sf 0 15) 1))) 0 ((cpK nf 0 sf 0 15) 0 + 1)) 0 15)))), (mw, .inl (G.2.1, 150, .inl (aZ (wfR kn wf sf)))), (ml, .inl (G.2.1, 12, .inl (aZ ld)))] H := hP
      have hD : va_D A [(hm0, .inr (9, [.int (zI S), .int (zI C), .int (zI Wy), .int (zI Li), .ref ml, .ref ms, .ref mw, .int (zI (knR kn)), .ref mi, .ref mk, .int (zI hz), .ref mh, .long tr, .ref mt, .int (zI tn), .int (zI cu), .int (zI sa), .int (zI to), .int (zI nu), .int (zI wr), .int (zI it), .int (zI sS), .int (zI sC), .int (zI sL), .int (zI sW), .ref mq, .ref mn, .ref mc, .ref mr, .ref mb])), (mn, .inl (G.2.1, 15, .inl (aZ (uZ (uZ (cpK nf 0 sf 0 15) (3 + (cpK nf 0 sf 0 15) 1) (if 999 < (cpK nf 0 sf 0 15) (3 + (cpK nf 0 sf 0 15) 1) + ld ((cpK nf 0 sf 0 15) 1) then 999 else (cpK nf 0 sf 0 15) (3 + (cpK nf 0 sf 0 15) 1) + ld ((cpK nf 0 sf 0 15) 1))) 0 ((cpK nf 0 sf 0 15) 0 + 1))))), (ms, .inl (G.2.1, 15, .inl (aZ (cpK sf 0 (uZ (uZ (cpK nf 0 sf 0 15) (3 + (cpK nf 0 sf 0 15) 1) (if 999 < (cpK nf 0 sf 0 15) (3 + (cpK nf 0 sf 0 15) 1) + ld ((cpK nf 0 sf 0 15) 1) then 999 else (cpK nf 0 sf 0 15) (3 + (cpK nf 0 sf 0 15) 1) + ld ((cpK nf 0 sf 0 15) 1))) 0 ((cpK nf 0 sf 0 15) 0 + 1)) 0 15)))), (mw, .inl (G.2.1, 150, .inl (aZ (wfR kn wf sf)))), (ml, .inl (G.2.1, 12, .inl (aZ ld)))] := hD
      refine lv_iload_n hx hb dX9_season_48 rfl (lv_at hl 0 rfl) ?_
      exact hret H locs ls 49 _ (knR kn, uZ (uZ (cpK nf 0 sf 0 15) (3 + (cpK nf 0 sf 0 15) 1) (if 999 < (cpK nf 0 sf 0 15) (3 + (cpK nf 0 sf 0 15) 1) + ld ((cpK nf 0 sf 0 15) 1) then 999 else (cpK nf 0 sf 0 15) (3 + (cpK nf 0 sf 0 15) 1) + ld ((cpK nf 0 sf 0 15) 1))) 0 ((cpK nf 0 sf 0 15) 0 + 1), cpK sf 0 (uZ (uZ (cpK nf 0 sf 0 15) (3 + (cpK nf 0 sf 0 15) 1) (if 999 < (cpK nf 0 sf 0 15) (3 + (cpK nf 0 sf 0 15) 1) + ld ((cpK nf 0 sf 0 15) 1) then 999 else (cpK nf 0 sf 0 15) (3 + (cpK nf 0 sf 0 15) 1) + ld ((cpK nf 0 sf 0 15) 1))) 0 ((cpK nf 0 sf 0 15) 0 + 1)) 0 15, wfR kn wf sf) rfl ⟨congrArg zI (by rw [if_neg (show ¬ (Li ≤ grZ (fun i => sf (3 + i)) Wy.toNat ∨ sf 0 = 999) by omega), cp15 (j := 1) (by omega), cp15 (j := 3 + sf 1) (by omega)]), by refine ⟨fun h => ?_, fun h => ⟨rfl, rfl, fun j h1 h2 => ?_⟩⟩ <;> first | omega | (rw [cp15 ⟨h1, h2⟩]; exact goes_eq (by omega) ⟨h1, h2⟩)⟩ hP hS dX9_season_49
    · refine lv_bipush (v := zI (-2)) hx hb dX9_season_23 (by decide) ?_
      exact hret H locs ls 25 _ (kn, cpK nf 0 sf 0 15, sf, wf) rfl ⟨congrArg zI (by rw [if_pos (by omega)]), by refine ⟨fun h => ⟨rfl, rfl, rfl⟩, fun h => ?_⟩; omega⟩ hP hS dX9_season_25
theorem pd_X9_now : yX9_now.cls = RX9 ∧ yX9_now.cls ≠ "java/lang/invoke/MethodHandle" ∧ yX9_now.cls ≠ "java/lang/invoke/VarHandle" ∧ (parseMethodDescriptor yX9_now.desc).map (fun d => d.parameters.length) = some 1 := by decide +kernel
abbrev rmX9_now : Room := { frames := 2, cells := 0, slots := 0, locals := 44 }
set_option maxHeartbeats 4000000 in
set_option maxRecDepth 100000 in
theorem c_X9_now (l : Launch) (G : CX) (hm0 : Nat) (S : Int) (C : Int) (Wy : Int) (Li : Int) (ml : Nat) (ms : Nat) (mw : Nat) (kn : Int) (mi : Nat) (mk : Nat) (hz : Int) (mh : Nat) (tr : Int64) (mt : Nat) (tn : Int) (cu : Int) (sa : Int) (to : Int) (nu : Int) (wr : Int) (it : Int) (sS : Int) (sC : Int) (sL : Int) (sW : Int) (mq : Nat) (mn : Nat) (mc : Nat) (mr : Nat) (mb : Nat) (nf : Int → Int) (sf : Int → Int) (what : Int) (hW0 : 0 ≤ Wy ∧ Wy ≤ 12) (hsr : ∀ i : Int, 0 ≤ i → i < 12 → 0 ≤ sf (3 + i) ∧ sf (3 + i) ≤ 999) (hLi : 5 ≤ Li ∧ Li ≤ 99) (hr_what : -2147483648 ≤ what ∧ what < 2147483648) : Met l yX9_now wsX9_now rmX9_now (wrP G [.ref hm0, .int (zI what)] [(hm0, .inr (9, [.int (zI S), .int (zI C), .int (zI Wy), .int (zI Li), .ref ml, .ref ms, .ref mw, .int (zI kn), .ref mi, .ref mk, .int (zI hz), .ref mh, .long tr, .ref mt, .int (zI tn), .int (zI cu), .int (zI sa), .int (zI to), .int (zI nu), .int (zI wr), .int (zI it), .int (zI sS), .int (zI sC), .int (zI sL), .int (zI sW), .ref mq, .ref mn, .ref mc, .ref mr, .ref mb])), (mn, .inl (G.2.1, 15, .inl (aZ nf))), (ms, .inl (G.2.1, 15, .inl (aZ sf)))]) (wrQ G [(hm0, .inr (9, [.int (zI S), .int (zI C), .int (zI Wy), .int (zI Li), .ref ml, .ref ms, .ref mw, .int (zI kn), .ref mi, .ref mk, .int (zI hz), .ref mh, .long tr, .ref mt, .int (zI tn), .int (zI cu), .int (zI sa), .int (zI to), .int (zI nu), .int (zI wr), .int (zI it), .int (zI sS), .int (zI sC), .int (zI sL), .int (zI sW), .ref mq, .ref mn, .ref mc, .ref mr, .ref mb])), (mn, .inl (G.2.1, 15, .inl (aZ nf))), (ms, .inl (G.2.1, 15, .inl (aZ sf)))] (fun (r_ : Int32) (u : (Int → Int)) => match u with | nf2 => r_ = zI (if what = 0 then sf 0 else if what = 1 then sf 1 else if what = 2 then sf 2 else if what = 3 then (if Li ≤ grZ (fun i => sf (3 + i)) Wy.toNat then 1 else 0) else if what = 4 then grZ (fun i => sf (3 + i)) Wy.toNat else if what = 5 then smZ (fun i => sf (3 + i)) Wy.toNat else if what = 6 then kn else -1) ∧ (True)) (fun (u : (Int → Int)) => match u with | nf2 => [(hm0, .inr (9, [.int (zI S), .int (zI C), .int (zI Wy), .int (zI Li), .ref ml, .ref ms, .ref mw, .int (zI kn), .ref mi, .ref mk, .int (zI hz), .ref mh, .long tr, .ref mt, .int (zI tn), .int (zI cu), .int (zI sa), .int (zI to), .int (zI nu), .int (zI wr), .int (zI it), .int (zI sS), .int (zI sC), .int (zI sL), .int (zI sW), .ref mq, .ref mn, .ref mc, .ref mr, .ref mb])), (mn, .inl (G.2.1, 15, .inl (aZ nf2))), (ms, .inl (G.2.1, 15, .inl (aZ sf)))])) 0 0 (wrA [(hm0, .inr (9, [.int (zI S), .int (zI C), .int (zI Wy), .int (zI Li), .ref ml, .ref ms, .ref mw, .int (zI kn), .ref mi, .ref mk, .int (zI hz), .ref mh, .long tr, .ref mt, .int (zI tn), .int (zI cu), .int (zI sa), .int (zI to), .int (zI nu), .int (zI wr), .int (zI it), .int (zI sS), .int (zI sC), .int (zI sL), .int (zI sW), .ref mq, .ref mn, .ref mc, .ref mr, .ref mb])), (mn, .inl (G.2.1, 15, .inl (aZ nf))), (ms, .inl (G.2.1, 15, .inl (aZ sf)))]) := by
  refine wr_ofW (cc := cX9_now) (maxL := 4) (ty := .int) (by decide) rfl (Nat.le_of_ble_eq_true rfl) ?_
  intro p e s m below meth c Q A hx hb hml hown hts hK hret H locs hP hD hS ls hl
  have hown : s.vm.findClass RX9 = some m.cls := hown
  have hl : lv_has ls 4 [(0, .ref hm0), (1, .int (zI what))] := hl
  have f16 := hts (.fieldLink RX9 16 "QuarterTurnsModel" "ways" "I") (by decide +kernel)
  have i9 : ∀ w ∈ wsX90, w ∈ wsX9_now := fun w h => List.mem_cons_of_mem _ (List.mem_append_right _ h)
  have f26 := hts (.fieldLink RX9 26 "QuarterTurnsModel" "st" "[I") (by decide +kernel)
  have f122 := hts (.fieldLink RX9 122 "QuarterTurnsModel" "known" "I") (by decide +kernel)
  have hgg := cpg (nf := nf) (sf := sf) (k := Wy.toNat) (by omega)
  refine lv_aload_n hx hb dX9_now_0 rfl (lv_at hl 0 rfl) ?_
  refine z_wVv (As := []) (rest := []) ⟨hx, hb, hml, hown, hts⟩ (c_X9_asItIs l G hm0 S C Wy Li ml ms mw kn mi mk hz mh tr mt tn cu sa to nu wr it sS sC sL sW mq mn mc mr mb nf sf ) (cwV 0 hts gX9_now_X9_asItIs rfl rfl rfl pd_X9_asItIs ⟨(Nat.le_of_ble_eq_true rfl), (Nat.le_of_ble_eq_true rfl)⟩) hK hP hD hS [0, 1, 2] (by decide) rfl rfl rfl rfl (fun _ => Eq.trans (b := [hm0, mn, ms]) rfl rfl) rfl hl.1 rfl (Nat.le_of_ble_eq_true rfl) dX9_now_1 ⟨Nat.zero_le _, Nat.zero_le _⟩ (fun u_ H locs hw_1 hP hD hS => ?_)
  try dsimp only at hw_1
  have hP : kP G [(hm0, .inr (9, [.int (zI S), .int (zI C), .int (zI Wy), .int (zI Li), .ref ml, .ref ms, .ref mw, .int (zI kn), .ref mi, .ref mk, .int (zI hz), .ref mh, .long tr, .ref mt, .int (zI tn), .int (zI cu), .int (zI sa), .int (zI to), .int (zI nu), .int (zI wr), .int (zI it), .int (zI sS), .int (zI sC), .int (zI sL), .int (zI sW), .ref mq, .ref mn, .ref mc, .ref mr, .ref mb])), (mn, .inl (G.2.1, 15, .inl (aZ (cpK nf 0 sf 0 15)))), (ms, .inl (G.2.1, 15, .inl (aZ sf)))] H := hP
  have hD : va_D A [(hm0, .inr (9, [.int (zI S), .int (zI C), .int (zI Wy), .int (zI Li), .ref ml, .ref ms, .ref mw, .int (zI kn), .ref mi, .ref mk, .int (zI hz), .ref mh, .long tr, .ref mt, .int (zI tn), .int (zI cu), .int (zI sa), .int (zI to), .int (zI nu), .int (zI wr), .int (zI it), .int (zI sS), .int (zI sC), .int (zI sL), .int (zI sW), .ref mq, .ref mn, .ref mc, .ref mr, .ref mb])), (mn, .inl (G.2.1, 15, .inl (aZ (cpK nf 0 sf 0 15)))), (ms, .inl (G.2.1, 15, .inl (aZ sf)))] := hD
  refine lv_iconst (v := zI 0) hx hb dX9_now_4 rfl ?_
  refine lv_istore_n (lv' := [(2, .int (zI 0)), (0, .ref hm0), (1, .int (zI what))]) hx hb dX9_now_5 rfl hl (by decide) rfl (fun ls hl => ?_)
  refine lv_iconst (v := zI 0) hx hb dX9_now_6 rfl ?_
  refine lv_istore_n (lv' := [(3, .int (zI 0)), (2, .int (zI 0)), (0, .ref hm0), (1, .int (zI what))]) hx hb dX9_now_7 rfl hl (by decide) rfl (fun ls hl => ?_)
  have loop8 : ∀ (n_ : Nat) (w : Int) (su : Int) (H : Heap) (locs : List Loc) (ls : Array Slot), (0 ≤ w ∧ w ≤ Wy) → (su = smZ (fun i => sf (3 + i)) w.toNat) → (Wy - w).toNat < n_ → kP G [(hm0, .inr (9, [.int (zI S), .int (zI C), .int (zI Wy), .int (zI Li), .ref ml, .ref ms, .ref mw, .int (zI kn), .ref mi, .ref mk, .int (zI hz), .ref mh, .long tr, .ref mt, .int (zI tn), .int (zI cu), .int (zI sa), .int (zI to), .int (zI nu), .int (zI wr), .int (zI it), .int (zI sS), .int (zI sC), .int (zI sL), .int (zI sW), .ref mq, .ref mn, .ref mc, .ref mr, .ref mb])), (mn, .inl (G.2.1, 15, .inl (aZ (cpK nf 0 sf 0 15)))), (ms, .inl (G.2.1, 15, .inl (aZ sf)))] H → va_D A [(hm0, .inr (9, [.int (zI S), .int (zI C), .int (zI Wy), .int (zI Li), .ref ml, .ref ms, .ref mw, .int (zI kn), .ref mi, .ref mk, .int (zI hz), .ref mh, .long tr, .ref mt, .int (zI tn), .int (zI cu), .int (zI sa), .int (zI to), .int (zI nu), .int (zI wr), .int (zI it), .int (zI sS), .int (zI sC), .int (zI sL), .int (zI sW), .ref mq, .ref mn, .ref mc, .ref mr, .ref mb])), (mn, .inl (G.2.1, 15, .inl (aZ (cpK nf 0 sf 0 15)))), (ms, .inl (G.2.1, 15, .inl (aZ sf)))] → va_S A s.heap H locs → lv_has ls 4 [(3, .int (zI w)), (2, .int (zI su)), (0, .ref hm0), (1, .int (zI what))] → W p l e rmX9_now s m ([.ref hm0, .int (zI what)] : List Value).toArray below meth c H locs 0 0 Q (F0 m 8 ls []) := by
    intro n_
    induction n_ with
    | zero =>
      intro w su H locs ls hw hsu hm
      exact absurd hm (Nat.not_lt_zero _)
    | succ n_ ih8 =>
      intro w su H locs ls hw hsu hm8 hP hD hS hl
      refine lv_iload_n hx hb dX9_now_8 rfl (lv_at hl 0 rfl) ?_
      refine lv_aload_n hx hb dX9_now_9 rfl (lv_at hl 2 rfl) ?_
      refine va_get (ci := 9) (v := .int (zI Wy)) (C := RX9) (T := TX9) (N := 30) hx hb hts i9 hown hK hP 0 rfl rfl 2 (by decide) f16 (fun _ h9 => h9) rfl dX9_now_10 ?_
      refine z_icmp_ge (tgt := 33) hx hb (by omega) dX9_now_13 (by decide) (fun c_2 => ?_) (fun c_2 => ?_)
      · have hsm : su = smZ (fun i => sf (3 + i)) Wy.toNat := by rw [hsu, show w = Wy by omega]
        refine lv_iload_n hx hb dX9_now_33 rfl (lv_at hl 3 rfl) ?_
        rcases (show (what < 0 ∨ 6 < what) ∨ what = 0 ∨ what = 1 ∨ what = 2 ∨ what = 3 ∨ what = 4 ∨ what = 5 ∨ what = 6 by omega) with c_3 | c_3 | c_3 | c_3 | c_3 | c_3 | c_3 | c_3
        · refine z_tabOut (tgt := 122) hx hb (by omega) dX9_now_34 c_3 (by decide) ?_
          refine lv_iconst (v := zI (-1)) hx hb dX9_now_122 rfl ?_
          exact hret H locs ls 123 _ (cpK nf 0 sf 0 15) rfl ⟨congrArg zI (by (repeat' split) <;> omega), by trivial⟩ hP hS dX9_now_123
        · refine z_tabIn (tgt := 76) (k := 0) hx hb (by omega) dX9_now_34 (by omega) (by omega) (by omega) rfl (by decide) ?_
          refine lv_aload_n hx hb dX9_now_76 rfl (lv_at hl 2 rfl) ?_
          refine va_get (ci := 9) (v := .ref ms) (C := RX9) (T := TX9) (N := 30) hx hb hts i9 hown hK hP 0 rfl rfl 5 (by decide) f26 (fun _ h9 => h9) rfl dX9_now_77 ?_
          refine lv_iconst (v := zI 0) hx hb dX9_now_80 rfl ?_
          refine z_iald (n := 15) (f := sf) hx hb hK hP 2 rfl (by omega) dX9_now_81 ?_
          exact hret H locs ls 82 _ (cpK nf 0 sf 0 15) rfl ⟨congrArg zI (by (repeat' split) <;> omega), by trivial⟩ hP hS dX9_now_82
        · refine z_tabIn (tgt := 83) (k := 1) hx hb (by omega) dX9_now_34 (by omega) (by omega) (by omega) rfl (by decide) ?_
          refine lv_aload_n hx hb dX9_now_83 rfl (lv_at hl 2 rfl) ?_
          refine va_get (ci := 9) (v := .ref ms) (C := RX9) (T := TX9) (N := 30) hx hb hts i9 hown hK hP 0 rfl rfl 5 (by decide) f26 (fun _ h9 => h9) rfl dX9_now_84 ?_
          refine lv_iconst (v := zI 1) hx hb dX9_now_87 rfl ?_
          refine z_iald (n := 15) (f := sf) hx hb hK hP 2 rfl (by omega) dX9_now_88 ?_
          exact hret H locs ls 89 _ (cpK nf 0 sf 0 15) rfl ⟨congrArg zI (by (repeat' split) <;> omega), by trivial⟩ hP hS dX9_now_89
        · refine z_tabIn (tgt := 90) (k := 2) hx hb (by omega) dX9_now_34 (by omega) (by omega) (by omega) rfl (by decide) ?_
          refine lv_aload_n hx hb dX9_now_90 rfl (lv_at hl 2 rfl) ?_
          refine va_get (ci := 9) (v := .ref ms) (C := RX9) (T := TX9) (N := 30) hx hb hts i9 hown hK hP 0 rfl rfl 5 (by decide) f26 (fun _ h9 => h9) rfl dX9_now_91 ?_
          refine lv_iconst (v := zI 2) hx hb dX9_now_94 rfl ?_
          refine z_iald (n := 15) (f := sf) hx hb hK hP 2 rfl (by omega) dX9_now_95 ?_
          exact hret H locs ls 96 _ (cpK nf 0 sf 0 15) rfl ⟨congrArg zI (by (repeat' split) <;> omega), by trivial⟩ hP hS dX9_now_96
        · refine z_tabIn (tgt := 97) (k := 3) hx hb (by omega) dX9_now_34 (by omega) (by omega) (by omega) rfl (by decide) ?_
          refine lv_aload_n hx hb dX9_now_97 rfl (lv_at hl 2 rfl) ?_
          refine z_cV (As := []) (rest := []) ⟨hx, hb, hml, hown, hts⟩ (c_X9_isOut l G hm0 S C Wy Li ml ms mw kn mi mk hz mh tr mt tn cu sa to nu wr it sS sC sL sW mq mn mc mr mb (cpK nf 0 sf 0 15) (by first | assumption | omega) (by exact fun i h1 h2 => by rw [cp15 (by omega)]; exact hsr i h1 h2) (by first | assumption | omega)) (cwV 0 hts gX9_now_X9_isOut rfl rfl rfl pd_X9_isOut ⟨(Nat.le_of_ble_eq_true rfl), (Nat.le_of_ble_eq_true rfl)⟩) hK hP hS [0, 1] rfl rfl rfl rfl rfl hl.1 rfl (Nat.le_of_ble_eq_true rfl) dX9_now_98 ⟨Nat.zero_le _, Nat.zero_le _⟩ (fun H locs hP hS => ?_)
          refine z_ifeq_b (tgt := 108) hx hb dX9_now_101 (by decide) (fun c_4 => ?_) (fun c_4 => ?_)
          · refine lv_iconst (v := zI 0) hx hb dX9_now_108 rfl ?_
            exact hret H locs ls 109 _ (cpK nf 0 sf 0 15) rfl ⟨congrArg zI (by (repeat' split) <;> omega), by trivial⟩ hP hS dX9_now_109
          · refine lv_iconst (v := zI 1) hx hb dX9_now_104 rfl ?_
            refine lv_goto (tgt := 109) hx hb dX9_now_105 (by decide) ?_
            exact hret H locs ls 109 _ (cpK nf 0 sf 0 15) rfl ⟨congrArg zI (by (repeat' split) <;> omega), by trivial⟩ hP hS dX9_now_109
        · refine z_tabIn (tgt := 110) (k := 4) hx hb (by omega) dX9_now_34 (by omega) (by omega) (by omega) rfl (by decide) ?_
          refine lv_aload_n hx hb dX9_now_110 rfl (lv_at hl 2 rfl) ?_
          refine z_cV (As := []) (rest := []) ⟨hx, hb, hml, hown, hts⟩ (c_X9_greatest l G hm0 S C Wy Li ml ms mw kn mi mk hz mh tr mt tn cu sa to nu wr it sS sC sL sW mq mn mc mr mb (cpK nf 0 sf 0 15) (by first | assumption | omega) (by exact fun i h1 h2 => by rw [cp15 (by omega)]; exact hsr i h1 h2)) (cwV 0 hts gX9_now_X9_greatest rfl rfl rfl pd_X9_greatest ⟨(Nat.le_of_ble_eq_true rfl), (Nat.le_of_ble_eq_true rfl)⟩) hK hP hS [0, 1] rfl rfl rfl rfl rfl hl.1 rfl (Nat.le_of_ble_eq_true rfl) dX9_now_111 ⟨Nat.zero_le _, Nat.zero_le _⟩ (fun H locs hP hS => ?_)
          have hq_5 := grZ_rng (f := fun i => (cpK nf 0 sf 0 15) (3 + i)) (N := 12) (b := 999) (by omega) ((by exact fun i h1 h2 => by rw [cp15 (by omega)]; exact hsr i h1 h2)) Wy.toNat (by omega)
          exact hret H locs ls 114 _ (cpK nf 0 sf 0 15) rfl ⟨congrArg zI (by (repeat' split) <;> omega), by trivial⟩ hP hS dX9_now_114
        · refine z_tabIn (tgt := 115) (k := 5) hx hb (by omega) dX9_now_34 (by omega) (by omega) (by omega) rfl (by decide) ?_
          refine lv_iload_n hx hb dX9_now_115 rfl (lv_at hl 1 rfl) ?_
          exact hret H locs ls 116 _ (cpK nf 0 sf 0 15) rfl ⟨congrArg zI (by (repeat' split) <;> omega), by trivial⟩ hP hS dX9_now_116
        · refine z_tabIn (tgt := 117) (k := 6) hx hb (by omega) dX9_now_34 (by omega) (by omega) (by omega) rfl (by decide) ?_
          refine lv_aload_n hx hb dX9_now_117 rfl (lv_at hl 2 rfl) ?_
          refine va_get (ci := 9) (v := .int (zI kn)) (C := RX9) (T := TX9) (N := 30) hx hb hts i9 hown hK hP 0 rfl rfl 7 (by decide) f122 (fun _ h9 => h9) rfl dX9_now_118 ?_
          exact hret H locs ls 121 _ (cpK nf 0 sf 0 15) rfl ⟨congrArg zI (by (repeat' split) <;> omega), by trivial⟩ hP hS dX9_now_121
      · refine lv_iload_n hx hb dX9_now_16 rfl (lv_at hl 1 rfl) ?_
        refine lv_aload_n hx hb dX9_now_17 rfl (lv_at hl 2 rfl) ?_
        refine va_get (ci := 9) (v := .ref ms) (C := RX9) (T := TX9) (N := 30) hx hb hts i9 hown hK hP 0 rfl rfl 5 (by decide) f26 (fun _ h9 => h9) rfl dX9_now_18 ?_
        refine lv_iconst (v := zI 3) hx hb dX9_now_21 rfl ?_
        refine lv_iload_n hx hb dX9_now_22 rfl (lv_at hl 0 rfl) ?_
        refine z_iadd hx hb dX9_now_23 ?_
        refine z_iald (n := 15) (f := sf) hx hb hK hP 2 rfl (by omega) dX9_now_24 ?_
        refine z_iadd hx hb dX9_now_25 ?_
        refine lv_istore_n (lv' := [(2, .int (zI (su + (sf (3 + w))))), (3, .int (zI w)), (0, .ref hm0), (1, .int (zI what))]) hx hb dX9_now_26 rfl hl (by decide) rfl (fun ls hl => ?_)
        refine lv_iinc (v := zI (w + 1)) (lv' := [(3, .int (zI (w + 1))), (2, .int (zI (su + (sf (3 + w))))), (0, .ref hm0), (1, .int (zI what))]) hx hb dX9_now_27 hl (k := 1) rfl (zI_add _ _) (by decide) rfl (fun ls hl => ?_)
        refine lv_goto (tgt := 8) hx hb dX9_now_30 (by decide) ?_
        exact ih8 (w + 1) (su + (sf (3 + w))) H locs ls (by omega) (by rw [tn1 hw.1, smZ, ← hsu, Int.toNat_of_nonneg hw.1]) (by omega) hP hD hS (lv_sub hl [0, 1, 2, 3] rfl)
  exact loop8 _ 0 0 H locs ls (by omega) rfl (Nat.lt_succ_self _) hP hD hS (lv_sub hl [0, 1, 2, 3] rfl)

theorem ag_step {S t w sm sm2 at1 : Int} {n : Nat} (hw : 0 ≤ w) (hsm : (sm = 1 ∧ agS S t n w.toNat = true) ∨ (sm = 0 ∧ ¬ agS S t n w.toNat = true)) (hat : at1 = wyI S t w n) (h : (sm2 = 1 ∧ sm = 1 ∧ at1 = w) ∨ (sm2 = 0 ∧ ¬ (sm = 1 ∧ at1 = w))) : (sm2 = 1 ∧ agS S t n (w + 1).toNat = true) ∨ (sm2 = 0 ∧ ¬ agS S t n (w + 1).toNat = true) := by
  rw [tn1 hw, agS, Int.toNat_of_nonneg hw, Bool.and_eq_true, decide_eq_true_eq, ← hat]
  rcases hsm with ⟨h1, h2⟩ | ⟨h1, h2⟩ <;> rcases h with ⟨h3, h4, h5⟩ | ⟨h3, h4⟩
  · exact Or.inl ⟨h3, h2, h5⟩
  · exact Or.inr ⟨h3, fun h => h4 ⟨h1, h.2⟩⟩
  · omega
  · exact Or.inr ⟨h3, fun h => h2 h.1⟩
theorem pd_X9_againOf : yX9_againOf.cls = RX9 ∧ yX9_againOf.cls ≠ "java/lang/invoke/MethodHandle" ∧ yX9_againOf.cls ≠ "java/lang/invoke/VarHandle" ∧ (parseMethodDescriptor yX9_againOf.desc).map (fun d => d.parameters.length) = some 1 := by decide +kernel
abbrev rmX9_againOf : Room := { frames := 1, cells := 0, slots := 0, locals := 24 }
set_option maxHeartbeats 4000000 in
set_option maxRecDepth 100000 in
theorem c_X9_againOf (l : Launch) (G : CX) (hm0 : Nat) (S : Int) (C : Int) (Wy : Int) (Li : Int) (ml : Nat) (ms : Nat) (mw : Nat) (kn : Int) (mi : Nat) (mk : Nat) (hz : Int) (mh : Nat) (tr : Int64) (mt : Nat) (tn : Int) (cu : Int) (sa : Int) (to : Int) (nu : Int) (wr : Int) (it : Int) (sS : Int) (sC : Int) (sL : Int) (sW : Int) (mq : Nat) (mn : Nat) (mc : Nat) (mr : Nat) (mb : Nat) (t : Int) (hB : (2 ≤ S ∧ S ≤ 6) ∧ (C = 1 ∧ Wy = S ∨ C = 2 ∧ Wy = 2 * S)) (ht : 0 ≤ t ∧ t < Wy) : Met l yX9_againOf wsX9_againOf rmX9_againOf (rdP G [.ref hm0, .int (zI t)] [(hm0, .inr (9, [.int (zI S), .int (zI C), .int (zI Wy), .int (zI Li), .ref ml, .ref ms, .ref mw, .int (zI kn), .ref mi, .ref mk, .int (zI hz), .ref mh, .long tr, .ref mt, .int (zI tn), .int (zI cu), .int (zI sa), .int (zI to), .int (zI nu), .int (zI wr), .int (zI it), .int (zI sS), .int (zI sC), .int (zI sL), .int (zI sW), .ref mq, .ref mn, .ref mc, .ref mr, .ref mb]))]) (rdQ (zI (agZ S t Wy.toNat))) 0 0 noA := by
  refine rd_ofW (cc := cX9_againOf) (maxL := 8) (ty := .int) (by decide) rfl (Nat.le_of_ble_eq_true rfl) rfl ?_
  intro p e s m below meth c Q A hx hb hml hown hts hK hret H locs hP hS ls hl
  have hown : s.vm.findClass RX9 = some m.cls := hown
  have hl : lv_has ls 8 [(0, .ref hm0), (1, .int (zI t))] := hl
  have f16 := hts (.fieldLink RX9 16 "QuarterTurnsModel" "ways" "I") (by decide +kernel)
  have i9 : ∀ w ∈ wsX90, w ∈ wsX9_againOf := fun w h => List.mem_cons_of_mem _ (List.mem_append_right _ h)
  refine lv_iconst (v := zI 1) hx hb dX9_againOf_0 rfl ?_
  refine lv_istore_n (lv' := [(2, .int (zI 1)), (0, .ref hm0), (1, .int (zI t))]) hx hb dX9_againOf_1 rfl hl (by decide) rfl (fun ls hl => ?_)
  refine lv_iconst (v := zI 1) hx hb dX9_againOf_2 rfl ?_
  refine lv_istore_n (lv' := [(3, .int (zI 1)), (2, .int (zI 1)), (0, .ref hm0), (1, .int (zI t))]) hx hb dX9_againOf_3 rfl hl (by decide) rfl (fun ls hl => ?_)
  have loop4 : ∀ (n_ : Nat) (n : Int) (mo : Int) (H : Heap) (locs : List Loc) (ls : Array Slot), (1 ≤ n ∧ n ≤ 13) → (n = 13 → mo = 12) → (agG S t Wy.toNat (13 - n).toNat n.toNat = agZ S t Wy.toNat) → (13 - n).toNat < n_ → kP G [(hm0, .inr (9, [.int (zI S), .int (zI C), .int (zI Wy), .int (zI Li), .ref ml, .ref ms, .ref mw, .int (zI kn), .ref mi, .ref mk, .int (zI hz), .ref mh, .long tr, .ref mt, .int (zI tn), .int (zI cu), .int (zI sa), .int (zI to), .int (zI nu), .int (zI wr), .int (zI it), .int (zI sS), .int (zI sC), .int (zI sL), .int (zI sW), .ref mq, .ref mn, .ref mc, .ref mr, .ref mb]))] H → va_S A s.heap H locs → lv_has ls 8 [(3, .int (zI n)), (2, .int (zI mo)), (0, .ref hm0), (1, .int (zI t))] → W p l e rmX9_againOf s m ([.ref hm0, .int (zI t)] : List Value).toArray below meth c H locs 0 0 Q (F0 m 4 ls []) := by
    intro n_
    induction n_ with
    | zero =>
      intro n mo H locs ls hn hmo hag hm
      exact absurd hm (Nat.not_lt_zero _)
    | succ n_ ih4 =>
      intro n mo H locs ls hn hmo hag hm4 hP hS hl
      refine lv_iload_n hx hb dX9_againOf_4 rfl (lv_at hl 0 rfl) ?_
      refine lv_bipush (v := zI 12) hx hb dX9_againOf_5 (by decide) ?_
      refine z_icmp_gt (tgt := 93) hx hb (by omega) dX9_againOf_7 (by decide) (fun c_1 => ?_) (fun c_1 => ?_)
      · refine lv_iload_n hx hb dX9_againOf_93 rfl (lv_at hl 1 rfl) ?_
        exact hret H locs ls 94 _ (congrArg zI (by rw [hmo (by omega), ← hag, show (13 - n).toNat = 0 by omega]; rfl)) hS dX9_againOf_94
      · refine lv_iconst (v := zI 1) hx hb dX9_againOf_10 rfl ?_
        refine lv_istore (lv' := [(4, .int (zI 1)), (3, .int (zI n)), (2, .int (zI mo)), (0, .ref hm0), (1, .int (zI t))]) hx hb dX9_againOf_11 hl (by decide) rfl (fun ls hl => ?_)
        refine lv_iconst (v := zI 0) hx hb dX9_againOf_13 rfl ?_
        refine lv_istore (lv' := [(5, .int (zI 0)), (4, .int (zI 1)), (3, .int (zI n)), (2, .int (zI mo)), (0, .ref hm0), (1, .int (zI t))]) hx hb dX9_againOf_14 hl (by decide) rfl (fun ls hl => ?_)
        have loop16 : ∀ (n_ : Nat) (w : Int) (sm : Int) (H : Heap) (locs : List Loc) (ls : Array Slot), (0 ≤ w ∧ w ≤ Wy) → ((sm = 1 ∧ agS S t n.toNat w.toNat = true) ∨ (sm = 0 ∧ ¬ agS S t n.toNat w.toNat = true)) → (Wy - w).toNat < n_ → kP G [(hm0, .inr (9, [.int (zI S), .int (zI C), .int (zI Wy), .int (zI Li), .ref ml, .ref ms, .ref mw, .int (zI kn), .ref mi, .ref mk, .int (zI hz), .ref mh, .long tr, .ref mt, .int (zI tn), .int (zI cu), .int (zI sa), .int (zI to), .int (zI nu), .int (zI wr), .int (zI it), .int (zI sS), .int (zI sC), .int (zI sL), .int (zI sW), .ref mq, .ref mn, .ref mc, .ref mr, .ref mb]))] H → va_S A s.heap H locs → lv_has ls 8 [(5, .int (zI w)), (4, .int (zI sm)), (3, .int (zI n)), (2, .int (zI mo)), (0, .ref hm0), (1, .int (zI t))] → W p l e rmX9_againOf s m ([.ref hm0, .int (zI t)] : List Value).toArray below meth c H locs 0 0 Q (F0 m 16 ls []) := by
          intro n_
          induction n_ with
          | zero =>
            intro w sm H locs ls hw hsm hm
            exact absurd hm (Nat.not_lt_zero _)
          | succ n_ ih16 =>
            intro w sm H locs ls hw hsm hm16 hP hS hl
            refine lv_iload hx hb dX9_againOf_16 (lv_at hl 0 rfl) ?_
            refine lv_aload_n hx hb dX9_againOf_18 rfl (lv_at hl 4 rfl) ?_
            refine va_get (ci := 9) (v := .int (zI Wy)) (C := RX9) (T := TX9) (N := 30) hx hb hts i9 hown hK hP 0 rfl rfl 2 (by decide) f16 (fun _ h9 => h9) rfl dX9_againOf_19 ?_
            refine z_icmp_ge (tgt := 78) hx hb (by omega) dX9_againOf_22 (by decide) (fun c_2 => ?_) (fun c_2 => ?_)
            · refine lv_iload hx hb dX9_againOf_78 (lv_at hl 1 rfl) ?_
              refine z_if_eq (tgt := 85) hx hb (by omega) dX9_againOf_80 (by decide) (fun c_3 => ?_) (fun c_3 => ?_)
              · have hsf : ¬ agS S t n.toNat w.toNat = true := by rcases hsm with ⟨h, h2⟩ | ⟨h, h2⟩; omega; exact h2
                refine lv_iload_n hx hb dX9_againOf_85 rfl (lv_at hl 2 rfl) ?_
                refine lv_istore_n (lv' := [(2, .int (zI n)), (5, .int (zI w)), (4, .int (zI sm)), (3, .int (zI n)), (0, .ref hm0), (1, .int (zI t))]) hx hb dX9_againOf_86 rfl hl (by decide) rfl (fun ls hl => ?_)
                refine lv_iinc (v := zI (n + 1)) (lv' := [(3, .int (zI (n + 1))), (2, .int (zI n)), (5, .int (zI w)), (4, .int (zI sm)), (0, .ref hm0), (1, .int (zI t))]) hx hb dX9_againOf_87 hl (k := 3) rfl (zI_add _ _) (by decide) rfl (fun ls hl => ?_)
                refine lv_goto (tgt := 4) hx hb dX9_againOf_90 (by decide) ?_
                exact ih4 (n + 1) n H locs ls (by omega) (by omega) (by rw [← hag, show (13 - n).toNat = (13 - (n + 1)).toNat + 1 by omega, tn1 (by omega), agG, show Wy.toNat = w.toNat by omega, if_neg hsf]) (by omega) hP hS (lv_sub hl [0, 1, 4, 5] rfl)
              · refine lv_iload_n hx hb dX9_againOf_83 rfl (lv_at hl 2 rfl) ?_
                exact hret H locs ls 84 _ (congrArg zI (by rw [← hag, show (13 - n).toNat = (13 - (n + 1)).toNat + 1 by omega, agG, if_pos (by rcases hsm with ⟨h, h2⟩ | ⟨h, h2⟩; (rw [show Wy.toNat = w.toNat by omega]; exact h2); omega)]; omega)) hS dX9_againOf_84
            · refine lv_iload hx hb dX9_againOf_25 (lv_at hl 0 rfl) ?_
              refine lv_istore (lv' := [(6, .int (zI w)), (5, .int (zI w)), (4, .int (zI sm)), (3, .int (zI n)), (2, .int (zI mo)), (0, .ref hm0), (1, .int (zI t))]) hx hb dX9_againOf_27 hl (by decide) rfl (fun ls hl => ?_)
              refine lv_iconst (v := zI 0) hx hb dX9_againOf_29 rfl ?_
              refine lv_istore (lv' := [(7, .int (zI 0)), (6, .int (zI w)), (5, .int (zI w)), (4, .int (zI sm)), (3, .int (zI n)), (2, .int (zI mo)), (0, .ref hm0), (1, .int (zI t))]) hx hb dX9_againOf_30 hl (by decide) rfl (fun ls hl => ?_)
              have loop32 : ∀ (n_ : Nat) (k : Int) (at1 : Int) (H : Heap) (locs : List Loc) (ls : Array Slot), (0 ≤ k ∧ k ≤ n) → (0 ≤ at1 ∧ at1 < Wy) → (at1 = wyI S t w k.toNat) → (n - k).toNat < n_ → kP G [(hm0, .inr (9, [.int (zI S), .int (zI C), .int (zI Wy), .int (zI Li), .ref ml, .ref ms, .ref mw, .int (zI kn), .ref mi, .ref mk, .int (zI hz), .ref mh, .long tr, .ref mt, .int (zI tn), .int (zI cu), .int (zI sa), .int (zI to), .int (zI nu), .int (zI wr), .int (zI it), .int (zI sS), .int (zI sC), .int (zI sL), .int (zI sW), .ref mq, .ref mn, .ref mc, .ref mr, .ref mb]))] H → va_S A s.heap H locs → lv_has ls 8 [(7, .int (zI k)), (6, .int (zI at1)), (5, .int (zI w)), (4, .int (zI sm)), (3, .int (zI n)), (2, .int (zI mo)), (0, .ref hm0), (1, .int (zI t))] → W p l e rmX9_againOf s m ([.ref hm0, .int (zI t)] : List Value).toArray below meth c H locs 0 0 Q (F0 m 32 ls []) := by
                intro n_
                induction n_ with
                | zero =>
                  intro k at1 H locs ls hk har hat0 hm
                  exact absurd hm (Nat.not_lt_zero _)
                | succ n_ ih32 =>
                  intro k at1 H locs ls hk har hat0 hm32 hP hS hl
                  refine lv_iload hx hb dX9_againOf_32 (lv_at hl 0 rfl) ?_
                  refine lv_iload_n hx hb dX9_againOf_34 rfl (lv_at hl 4 rfl) ?_
                  refine z_icmp_ge (tgt := 53) hx hb (by omega) dX9_againOf_35 (by decide) (fun c_4 => ?_) (fun c_4 => ?_)
                  · have hat : at1 = wyI S t w n.toNat := by rw [hat0, show k = n by omega]
                    refine lv_iload hx hb dX9_againOf_53 (lv_at hl 3 rfl) ?_
                    refine z_if_eq (tgt := 69) hx hb (by omega) dX9_againOf_55 (by decide) (fun c_5 => ?_) (fun c_5 => ?_)
                    · refine lv_iconst (v := zI 0) hx hb dX9_againOf_69 rfl ?_
                      refine lv_istore (lv' := [(4, .int (zI 0)), (7, .int (zI k)), (6, .int (zI at1)), (5, .int (zI w)), (3, .int (zI n)), (2, .int (zI mo)), (0, .ref hm0), (1, .int (zI t))]) hx hb dX9_againOf_70 hl (by decide) rfl (fun ls hl => ?_)
                      refine lv_iinc (v := zI (w + 1)) (lv' := [(5, .int (zI (w + 1))), (4, .int (zI 0)), (7, .int (zI k)), (6, .int (zI at1)), (3, .int (zI n)), (2, .int (zI mo)), (0, .ref hm0), (1, .int (zI t))]) hx hb dX9_againOf_72 hl (k := 3) rfl (zI_add _ _) (by decide) rfl (fun ls hl => ?_)
                      refine lv_goto (tgt := 16) hx hb dX9_againOf_75 (by decide) ?_
                      exact ih16 (w + 1) 0 H locs ls (by omega) (by exact ag_step hw.1 hsm hat (by omega)) (by omega) hP hS (lv_sub hl [0, 1, 4, 5, 6, 7] rfl)
                    · refine lv_iload hx hb dX9_againOf_58 (lv_at hl 1 rfl) ?_
                      refine lv_iload hx hb dX9_againOf_60 (lv_at hl 2 rfl) ?_
                      refine z_icmp_ne (tgt := 69) hx hb (by omega) dX9_againOf_62 (by decide) (fun c_6 => ?_) (fun c_6 => ?_)
                      · refine lv_iconst (v := zI 0) hx hb dX9_againOf_69 rfl ?_
                        refine lv_istore (lv' := [(4, .int (zI 0)), (7, .int (zI k)), (6, .int (zI at1)), (5, .int (zI w)), (3, .int (zI n)), (2, .int (zI mo)), (0, .ref hm0), (1, .int (zI t))]) hx hb dX9_againOf_70 hl (by decide) rfl (fun ls hl => ?_)
                        refine lv_iinc (v := zI (w + 1)) (lv' := [(5, .int (zI (w + 1))), (4, .int (zI 0)), (7, .int (zI k)), (6, .int (zI at1)), (3, .int (zI n)), (2, .int (zI mo)), (0, .ref hm0), (1, .int (zI t))]) hx hb dX9_againOf_72 hl (k := 3) rfl (zI_add _ _) (by decide) rfl (fun ls hl => ?_)
                        refine lv_goto (tgt := 16) hx hb dX9_againOf_75 (by decide) ?_
                        exact ih16 (w + 1) 0 H locs ls (by omega) (by exact ag_step hw.1 hsm hat (by omega)) (by omega) hP hS (lv_sub hl [0, 1, 4, 5, 6, 7] rfl)
                      · refine lv_iconst (v := zI 1) hx hb dX9_againOf_65 rfl ?_
                        refine lv_goto (tgt := 70) hx hb dX9_againOf_66 (by decide) ?_
                        refine lv_istore (lv' := [(4, .int (zI 1)), (7, .int (zI k)), (6, .int (zI at1)), (5, .int (zI w)), (3, .int (zI n)), (2, .int (zI mo)), (0, .ref hm0), (1, .int (zI t))]) hx hb dX9_againOf_70 hl (by decide) rfl (fun ls hl => ?_)
                        refine lv_iinc (v := zI (w + 1)) (lv' := [(5, .int (zI (w + 1))), (4, .int (zI 1)), (7, .int (zI k)), (6, .int (zI at1)), (3, .int (zI n)), (2, .int (zI mo)), (0, .ref hm0), (1, .int (zI t))]) hx hb dX9_againOf_72 hl (k := 3) rfl (zI_add _ _) (by decide) rfl (fun ls hl => ?_)
                        refine lv_goto (tgt := 16) hx hb dX9_againOf_75 (by decide) ?_
                        exact ih16 (w + 1) 1 H locs ls (by omega) (by exact ag_step hw.1 hsm hat (by omega)) (by omega) hP hS (lv_sub hl [0, 1, 4, 5, 6, 7] rfl)
                  · refine lv_aload_n hx hb dX9_againOf_38 rfl (lv_at hl 6 rfl) ?_
                    refine lv_iload hx hb dX9_againOf_39 (lv_at hl 1 rfl) ?_
                    refine lv_iload_n hx hb dX9_againOf_41 rfl (lv_at hl 7 rfl) ?_
                    refine z_cV (As := [.int (zI at1), .int (zI t)]) (rest := []) ⟨hx, hb, hml, hown, hts⟩ (c_X9_from l G hm0 S C Wy Li ml ms mw kn mi mk hz mh tr mt tn cu sa to nu wr it sS sC sL sW mq mn mc mr mb at1 t (by first | assumption | omega) (by first | assumption | omega) (by first | assumption | omega)) (cwV 2 hts gX9_againOf_X9_from rfl rfl rfl pd_X9_from ⟨(Nat.le_of_ble_eq_true rfl), (Nat.le_of_ble_eq_true rfl)⟩) hK hP hS [0] rfl rfl rfl rfl rfl hl.1 rfl (Nat.le_of_ble_eq_true rfl) dX9_againOf_42 ⟨Nat.zero_le _, Nat.zero_le _⟩ (fun H locs hP hS => ?_)
                    have hq_7 := fromZ_rng (C := C) (Wy := Wy) (w := at1) (t := t) ((by first | assumption | omega)) ((by first | assumption | omega)) ((by first | assumption | omega))
                    refine lv_istore (lv' := [(6, .int (zI (fromZ S at1 t))), (7, .int (zI k)), (5, .int (zI w)), (4, .int (zI sm)), (3, .int (zI n)), (2, .int (zI mo)), (0, .ref hm0), (1, .int (zI t))]) hx hb dX9_againOf_45 hl (by decide) rfl (fun ls hl => ?_)
                    refine lv_iinc (v := zI (k + 1)) (lv' := [(7, .int (zI (k + 1))), (6, .int (zI (fromZ S at1 t))), (5, .int (zI w)), (4, .int (zI sm)), (3, .int (zI n)), (2, .int (zI mo)), (0, .ref hm0), (1, .int (zI t))]) hx hb dX9_againOf_47 hl (k := 1) rfl (zI_add _ _) (by decide) rfl (fun ls hl => ?_)
                    refine lv_goto (tgt := 32) hx hb dX9_againOf_50 (by decide) ?_
                    exact ih32 (k + 1) (fromZ S at1 t) H locs ls (by omega) (by omega) (by rw [tn1 hk.1, wyI, ← hat0]) (by omega) hP hS (lv_sub hl [0, 1, 2, 3, 4, 5, 6, 7] rfl)
              exact loop32 _ 0 w H locs ls (by omega) (by omega) rfl (Nat.lt_succ_self _) hP hS (lv_sub hl [0, 1, 2, 3, 4, 5, 6, 7] rfl)
        exact loop16 _ 0 1 H locs ls (by omega) (by exact Or.inl ⟨rfl, rfl⟩) (Nat.lt_succ_self _) hP hS (lv_sub hl [0, 1, 2, 3, 4, 5] rfl)
  exact loop4 _ 1 1 H locs ls (by omega) (by omega) rfl (Nat.lt_succ_self _) hP hS (lv_sub hl [0, 1, 2, 3] rfl)
theorem pd_X9_again : yX9_again.cls = RX9 ∧ yX9_again.cls ≠ "java/lang/invoke/MethodHandle" ∧ yX9_again.cls ≠ "java/lang/invoke/VarHandle" ∧ (parseMethodDescriptor yX9_again.desc).map (fun d => d.parameters.length) = some 1 := by decide +kernel
abbrev rmX9_again : Room := { frames := 2, cells := 0, slots := 0, locals := 51 }
set_option maxHeartbeats 4000000 in
set_option maxRecDepth 100000 in
theorem c_X9_again (l : Launch) (G : CX) (hm0 : Nat) (S : Int) (C : Int) (Wy : Int) (Li : Int) (ml : Nat) (ms : Nat) (mw : Nat) (kn : Int) (mi : Nat) (mk : Nat) (hz : Int) (mh : Nat) (tr : Int64) (mt : Nat) (tn : Int) (cu : Int) (sa : Int) (to : Int) (nu : Int) (wr : Int) (it : Int) (sS : Int) (sC : Int) (sL : Int) (sW : Int) (mq : Nat) (mn : Nat) (mc : Nat) (mr : Nat) (mb : Nat) (t : Int) (hB : (2 ≤ S ∧ S ≤ 6) ∧ (C = 1 ∧ Wy = S ∨ C = 2 ∧ Wy = 2 * S)) (hr_t : -2147483648 ≤ t ∧ t < 2147483648) : Met l yX9_again wsX9_again rmX9_again (rdP G [.ref hm0, .int (zI t)] [(hm0, .inr (9, [.int (zI S), .int (zI C), .int (zI Wy), .int (zI Li), .ref ml, .ref ms, .ref mw, .int (zI kn), .ref mi, .ref mk, .int (zI hz), .ref mh, .long tr, .ref mt, .int (zI tn), .int (zI cu), .int (zI sa), .int (zI to), .int (zI nu), .int (zI wr), .int (zI it), .int (zI sS), .int (zI sC), .int (zI sL), .int (zI sW), .ref mq, .ref mn, .ref mc, .ref mr, .ref mb]))]) (rdQ (zI (if 0 ≤ t ∧ t < Wy then agZ S t Wy.toNat else -1))) 0 0 noA := by
  refine rd_ofW (cc := cX9_again) (maxL := 2) (ty := .int) (by decide) rfl (Nat.le_of_ble_eq_true rfl) rfl ?_
  intro p e s m below meth c Q A hx hb hml hown hts hK hret H locs hP hS ls hl
  have hown : s.vm.findClass RX9 = some m.cls := hown
  have hl : lv_has ls 2 [(0, .ref hm0), (1, .int (zI t))] := hl
  refine lv_aload_n hx hb dX9_again_0 rfl (lv_at hl 0 rfl) ?_
  refine lv_iload_n hx hb dX9_again_1 rfl (lv_at hl 1 rfl) ?_
  refine z_cV (As := [.int (zI t)]) (rest := []) ⟨hx, hb, hml, hown, hts⟩ (c_X9_isWay l G hm0 S C Wy Li ml ms mw kn mi mk hz mh tr mt tn cu sa to nu wr it sS sC sL sW mq mn mc mr mb t (by first | assumption | omega) (by first | assumption | omega)) (cwV 1 hts gX9_again_X9_isWay rfl rfl rfl pd_X9_isWay ⟨(Nat.le_of_ble_eq_true rfl), (Nat.le_of_ble_eq_true rfl)⟩) hK hP hS [0] rfl rfl rfl rfl rfl hl.1 rfl (Nat.le_of_ble_eq_true rfl) dX9_again_2 ⟨Nat.zero_le _, Nat.zero_le _⟩ (fun H locs hP hS => ?_)
  refine z_ifeq_b (tgt := 16) hx hb dX9_again_5 (by decide) (fun c_1 => ?_) (fun c_1 => ?_)
  · refine lv_iconst (v := zI (-1)) hx hb dX9_again_16 rfl ?_
    exact hret H locs ls 17 _ (congrArg zI (by (repeat' split) <;> first | rfl | omega)) hS dX9_again_17
  · refine lv_aload_n hx hb dX9_again_8 rfl (lv_at hl 0 rfl) ?_
    refine lv_iload_n hx hb dX9_again_9 rfl (lv_at hl 1 rfl) ?_
    refine z_cV (As := [.int (zI t)]) (rest := []) ⟨hx, hb, hml, hown, hts⟩ (c_X9_againOf l G hm0 S C Wy Li ml ms mw kn mi mk hz mh tr mt tn cu sa to nu wr it sS sC sL sW mq mn mc mr mb t (by first | assumption | omega) (by first | assumption | omega)) (cwV 1 hts gX9_again_X9_againOf rfl rfl rfl pd_X9_againOf ⟨(Nat.le_of_ble_eq_true rfl), (Nat.le_of_ble_eq_true rfl)⟩) hK hP hS [0] rfl rfl rfl rfl rfl hl.1 rfl (Nat.le_of_ble_eq_true rfl) dX9_again_10 ⟨Nat.zero_le _, Nat.zero_le _⟩ (fun H locs hP hS => ?_)
    refine lv_goto (tgt := 17) hx hb dX9_again_13 (by decide) ?_
    exact hret H locs ls 17 _ (congrArg zI (by (repeat' split) <;> first | rfl | omega)) hS dX9_again_17
