
def anyN (p : Nat → Bool) : Nat → Bool
  | 0 => false
  | k + 1 => anyN p k || p k
def fstG (p : Nat → Bool) : Nat → Nat → Nat
  | 0, k => k
  | f + 1, k => if p k = true then k else fstG p f (k + 1)
def fstN (p : Nat → Bool) (n : Nat) : Nat := fstG p n 0
theorem anyN_true {p : Nat → Bool} {t : Nat} (hp : p t = true) : ∀ n, t < n → anyN p n = true
  | 0, h => by omega
  | n + 1, h => by
    unfold anyN
    by_cases e : t = n
    · subst e; rw [hp, Bool.or_true]
    · rw [anyN_true hp n (by omega), Bool.true_or]
theorem anyN_false {p : Nat → Bool} : ∀ n, (∀ j, j < n → p j = false) → anyN p n = false
  | 0, _ => rfl
  | n + 1, h => by
    unfold anyN
    rw [anyN_false n (fun j hj => h j (by omega)), h n (by omega)]
    rfl
theorem anyN_ex {p : Nat → Bool} : ∀ n, anyN p n = true → ∃ t, t < n ∧ p t = true
  | 0, h => by simp [anyN] at h
  | n + 1, h => by
    unfold anyN at h
    rw [Bool.or_eq_true] at h
    rcases h with h | h
    · obtain ⟨t, h1, h2⟩ := anyN_ex n h
      exact ⟨t, by omega, h2⟩
    · exact ⟨n, by omega, h⟩
theorem fstG_eq {p : Nat → Bool} {t : Nat} (hp : p t = true) : ∀ f k, k ≤ t → t < k + f → (∀ j, k ≤ j → j < t → p j = false) → fstG p f k = t
  | 0, k, h1, h2, _ => by omega
  | f + 1, k, h1, h2, h3 => by
    unfold fstG
    by_cases e : k = t
    · subst e; rw [if_pos hp]
    · rw [h3 k (by omega) (by omega), if_neg (by decide)]
      exact fstG_eq hp f (k + 1) (by omega) (by omega) (fun j h4 h5 => h3 j (by omega) h5)
theorem fstN_eq {p : Nat → Bool} {t n : Nat} (ht : t < n) (hp : p t = true) (hno : ∀ j, j < t → p j = false) : fstN p n = t := fstG_eq hp n 0 (by omega) (by omega) (fun j _ h => hno j h)
def okM (S Wy : Int) (set : Nat) (home : Int) (ex : Int → Nat → Bool) (way : Int) (mask t : Nat) : Bool :=
  set.testBit t && (if mask = fullN Wy then decide (fromZ S way (t : Int) = home) else (!mask.testBit (fromZ S way (t : Int)).toNat && ex (fromZ S way (t : Int)) (mask ||| 2 ^ (fromZ S way (t : Int)).toNat)))
def exM (S Wy : Int) (set : Nat) (home : Int) : Nat → Int → Nat → Bool
  | 0, _, _ => false
  | d + 1, way, mask => anyN (okM S Wy set home (exM S Wy set home d) way mask) Wy.toNat
def ftM (S Wy : Int) (set : Nat) (home : Int) (d : Nat) (way : Int) (mask : Nat) : Nat := fstN (okM S Wy set home (exM S Wy set home d) way mask) Wy.toNat
def rwM (S Wy : Int) (set : Nat) (home : Int) : Nat → Int → Nat → Nat → Int
  | 0, _, _, _ => 0
  | d + 1, way, mask, 0 => (ftM S Wy set home d way mask : Int)
  | d + 1, way, mask, j + 1 => rwM S Wy set home d (fromZ S way (ftM S Wy set home d way mask : Int)) (mask ||| 2 ^ (fromZ S way (ftM S Wy set home d way mask : Int)).toNat) j
theorem okM_last {S Wy : Int} {set : Nat} {home : Int} {ex : Int → Nat → Bool} {way t : Int} {mask : Nat} (ht : 0 ≤ t) (hm : mask = fullN Wy) (h1 : set.testBit t.toNat = true) : okM S Wy set home ex way mask t.toNat = decide (fromZ S way t = home) := by
  unfold okM
  rw [h1, if_pos hm, Int.toNat_of_nonneg ht, Bool.true_and]
theorem okM_on {S Wy : Int} {set : Nat} {home : Int} {ex : Int → Nat → Bool} {way t : Int} {mask : Nat} (ht : 0 ≤ t) (hm : ¬ mask = fullN Wy) (h1 : set.testBit t.toNat = true) : okM S Wy set home ex way mask t.toNat = (!mask.testBit (fromZ S way t).toNat && ex (fromZ S way t) (mask ||| 2 ^ (fromZ S way t).toNat)) := by
  unfold okM
  rw [h1, if_neg hm, Int.toNat_of_nonneg ht, Bool.true_and]
theorem okM_no {S Wy : Int} {set : Nat} {home : Int} {ex : Int → Nat → Bool} {way : Int} {t mask : Nat} (h1 : ¬ set.testBit t = true) : okM S Wy set home ex way mask t = false := by
  unfold okM
  rw [Bool.not_eq_true] at h1
  rw [h1, Bool.false_and]
/-- how many bits below k -/
def cntN (x : Nat) : Nat → Nat
  | 0 => 0
  | k + 1 => cntN x k + (if x.testBit k = true then 1 else 0)
theorem cntN_le (x : Nat) : ∀ k, cntN x k ≤ k
  | 0 => Nat.le_refl _
  | k + 1 => by
    have h := cntN_le x k
    unfold cntN
    split <;> omega
theorem cntN_all {x : Nat} : ∀ {k : Nat}, cntN x k = k → ∀ j, j < k → x.testBit j = true
  | 0, _, j, h => by omega
  | k + 1, h, j, hj => by
    have h1 := cntN_le x k
    unfold cntN at h
    split at h
    · rename_i hk
      by_cases e : j = k
      · subst e; exact hk
      · exact cntN_all (k := k) (by omega) j (by omega)
    · omega
theorem cntN_full {x k : Nat} (hx : x < 2 ^ k) : cntN x k = k ↔ x = 2 ^ k - 1 := by
  constructor
  · intro h
    apply Nat.eq_of_testBit_eq
    intro i
    rw [Nat.testBit_two_pow_sub_one]
    by_cases hi : i < k
    · rw [cntN_all h i hi, decide_eq_true hi]
    · rw [decide_eq_false hi]
      exact Nat.testBit_lt_two_pow (Nat.lt_of_lt_of_le hx (Nat.pow_le_pow_right (by omega) (by omega)))
  · intro h
    subst h
    have key : ∀ n, n ≤ k → cntN (2 ^ k - 1) n = n := by
      intro n
      induction n with
      | zero => intro _; rfl
      | succ n ih =>
        intro hn
        unfold cntN
        rw [ih (by omega), Nat.testBit_two_pow_sub_one, decide_eq_true (by omega : n < k), if_pos rfl]
    exact key k (Nat.le_refl _)
theorem or_bit (x j i : Nat) : (x ||| 2 ^ j).testBit i = (x.testBit i || decide (j = i)) := by
  rw [Nat.testBit_or, Nat.testBit_two_pow]
theorem cntN_or {x j : Nat} (hj : ¬ x.testBit j = true) : ∀ k, cntN (x ||| 2 ^ j) k = cntN x k + (if j < k then 1 else 0)
  | 0 => by simp [cntN]
  | k + 1 => by
    unfold cntN
    rw [cntN_or hj k, or_bit]
    by_cases e : j = k
    · subst e
      rw [decide_eq_true rfl, Bool.or_true, if_pos rfl, if_neg hj, if_neg (by omega), if_pos (by omega)]
    · rw [decide_eq_false e, Bool.or_false]
      by_cases h2 : j < k
      · rw [if_pos h2, if_pos (show j < k + 1 by omega)]; omega
      · rw [if_neg h2, if_neg (show ¬ j < k + 1 by omega)]; omega
theorem cntN_one (j : Nat) : ∀ k, cntN (2 ^ j) k = if j < k then 1 else 0
  | 0 => by simp [cntN]
  | k + 1 => by
    unfold cntN
    rw [cntN_one j k, Nat.testBit_two_pow]
    by_cases e : j = k
    · subst e
      rw [decide_eq_true rfl, if_pos rfl, if_neg (by omega), if_pos (by omega)]
    · rw [decide_eq_false e, if_neg (show ¬ (false = true) by decide)]
      by_cases h2 : j < k
      · rw [if_pos h2, if_pos (show j < k + 1 by omega)]
      · rw [if_neg h2, if_neg (show ¬ j < k + 1 by omega)]
theorem bit_ltW {W x : Int} (h0 : 0 ≤ x) (h : x < W) : 2 ^ x.toNat < 2 ^ W.toNat := Nat.pow_lt_pow_right (by omega) (by omega)
/-- at the last step, and at it alone, all bits are there -/
theorem last_iff {Wy made : Int} {seen : Nat} (hW : 0 ≤ Wy) (hs : seen < 2 ^ Wy.toNat) (hc : ((cntN seen Wy.toNat : Nat) : Int) = made + 1) : seen = fullN Wy ↔ made = Wy - 1 := by
  have h := cntN_full hs
  unfold fullN
  rw [← h]
  omega
/-- the search's way on -/
theorem go_hit {S Wy : Int} {set : Nat} {home way t : Int} {mask d : Nat} (ht : 0 ≤ t ∧ t < Wy) (hok : okM S Wy set home (exM S Wy set home d) way mask t.toNat = true) (hno : ∀ j : Nat, (j : Int) < t → okM S Wy set home (exM S Wy set home d) way mask j = false) : exM S Wy set home (d + 1) way mask = true ∧ ftM S Wy set home d way mask = t.toNat :=
  ⟨anyN_true hok _ (by omega), fstN_eq (by omega) hok (fun j hj => hno j (by omega))⟩
theorem go_miss {S Wy : Int} {set : Nat} {home way t : Int} {mask d : Nat} (ht : t = Wy) (hno : ∀ j : Nat, (j : Int) < t → okM S Wy set home (exM S Wy set home d) way mask j = false) : ¬ exM S Wy set home (d + 1) way mask = true := by
  have h : exM S Wy set home (d + 1) way mask = false := anyN_false _ (fun j hj => hno j (by omega))
  rw [h]
  decide
theorem hno_step {p : Nat → Bool} {t : Int} (h0 : 0 ≤ t) (h : p t.toNat = false) (hno : ∀ j : Nat, (j : Int) < t → p j = false) : ∀ j : Nat, (j : Int) < t + 1 → p j = false := by
  intro j hj
  by_cases e : j = t.toNat
  · subst e; exact h
  · exact hno j (by omega)


theorem go_row1 {S Wy hm way t made : Int} {set seen d : Nat} {g : Int → Int} (ht : 0 ≤ t) (hft : ftM S Wy set hm d way seen = t.toNat) (hl : made = Wy - 1) : ∀ j : Int, made ≤ j → j < Wy → uZ g made t j = rwM S Wy set hm (d + 1) way seen (j - made).toNat := by
  intro j h1 h2
  have e : j = made := by omega
  subst e
  rw [uZ_same, show (j - j).toNat = 0 by omega]
  show t = ((ftM S Wy set hm d way seen : Nat) : Int)
  rw [hft]
  omega
theorem go_row2 {S Wy hm way t made : Int} {set seen d : Nat} {r : Int → Int} (ht : 0 ≤ t) (hft : ftM S Wy set hm d way seen = t.toNat) (h : ∀ j : Int, made + 1 ≤ j → j < Wy → r j = rwM S Wy set hm d (fromZ S way t) (seen ||| 2 ^ (fromZ S way t).toNat) (j - (made + 1)).toNat) (hr : r made = t) : ∀ j : Int, made ≤ j → j < Wy → r j = rwM S Wy set hm (d + 1) way seen (j - made).toNat := by
  intro j h1 h2
  by_cases e : j = made
  · subst e
    rw [hr, show (j - j).toNat = 0 by omega]
    show t = ((ftM S Wy set hm d way seen : Nat) : Int)
    rw [hft]
    omega
  · rw [h j (by omega) h2, show (j - made).toNat = (j - (made + 1)).toNat + 1 by omega]
    show _ = rwM S Wy set hm d (fromZ S way ((ftM S Wy set hm d way seen : Nat) : Int)) (seen ||| 2 ^ (fromZ S way ((ftM S Wy set hm d way seen : Nat) : Int)).toNat) _
    rw [hft, Int.toNat_of_nonneg ht]

theorem pd_X5_goOn : yX5_goOn.cls = RX5 ∧ yX5_goOn.cls ≠ "java/lang/invoke/MethodHandle" ∧ yX5_goOn.cls ≠ "java/lang/invoke/VarHandle" ∧ (parseMethodDescriptor yX5_goOn.desc).map (fun d => d.parameters.length) = some 3 := by decide +kernel
abbrev rmX5_goOn (d : Nat) : Room := { frames := d + 4, cells := 0, slots := 0, locals := 40 * d + 120 }
set_option maxHeartbeats 4000000 in
set_option maxRecDepth 100000 in
theorem c_X5_goOn (l : Launch) (G : CX) : ∀ (d : Nat) (hn0 : Nat) (aro : Nat) (hm : Int) (set : Int) (hb0 : Nat) (al : Nat) (S : Int) (C : Int) (Wy : Int) (Li : Int) (St : Int) (rr : Int → Int) (way : Int) (seen : Nat) (made : Int) (hB : (2 ≤ S ∧ S ≤ 6) ∧ (C = 1 ∧ Wy = S ∨ C = 2 ∧ Wy = 2 * S)) (hh : 0 ≤ hm ∧ hm < Wy) (hset : 0 ≤ set ∧ set < 4096) (hw : 0 ≤ way ∧ way < Wy) (hmd : 0 ≤ made ∧ made < Wy) (hd : (Wy - made).toNat ≤ d) (hsl : seen < 2 ^ Wy.toNat) (hcn : ((cntN seen Wy.toNat : Nat) : Int) = made + 1), Met l yX5_goOn wsX5_goOn (rmX5_goOn d) (wrP G [.ref hn0, .int (zI way), .int (zI ((seen : Nat) : Int)), .int (zI made)] [(hn0, .inr (5, [.ref hb0, .ref aro, .int (zI hm), .int (zI set)])), (hb0, .inr (0, [.int (zI S), .int (zI C), .int (zI Wy), .int (zI Li), .int (zI St), .ref al])), (aro, .inl (G.2.1, 12, .inl (aZ rr)))]) (wrQ G [(hn0, .inr (5, [.ref hb0, .ref aro, .int (zI hm), .int (zI set)])), (hb0, .inr (0, [.int (zI S), .int (zI C), .int (zI Wy), .int (zI Li), .int (zI St), .ref al])), (aro, .inl (G.2.1, 12, .inl (aZ rr)))] (fun (r_ : Int32) (u : (Int → Int)) => match u with | rr2 => r_ = zI (if exM S Wy set.toNat hm d way seen = true then 1 else 0) ∧ ((exM S Wy set.toNat hm d way seen = true → ∀ j : Int, made ≤ j → j < Wy → rr2 j = rwM S Wy set.toNat hm d way seen (j - made).toNat) ∧ (∀ j : Int, 0 ≤ j → j < made → rr2 j = rr j))) (fun (u : (Int → Int)) => match u with | rr2 => [(hn0, .inr (5, [.ref hb0, .ref aro, .int (zI hm), .int (zI set)])), (hb0, .inr (0, [.int (zI S), .int (zI C), .int (zI Wy), .int (zI Li), .int (zI St), .ref al])), (aro, .inl (G.2.1, 12, .inl (aZ rr2)))])) 0 0 (wrA [(hn0, .inr (5, [.ref hb0, .ref aro, .int (zI hm), .int (zI set)])), (hb0, .inr (0, [.int (zI S), .int (zI C), .int (zI Wy), .int (zI Li), .int (zI St), .ref al])), (aro, .inl (G.2.1, 12, .inl (aZ rr)))]) := by
  intro d
  induction d with
  | zero =>
    intro hn0 aro hm set hb0 al S C Wy Li St rr way seen made hB hh hset hw hmd hd hsl hcn
    exact absurd hd (by omega)
  | succ d ih =>
  intro hn0 aro hm set hb0 al S C Wy Li St rr way seen made hB hh hset hw hmd hd hsl hcn
  refine wr_ofW (cc := cX5_goOn) (maxL := 8) (ty := .boolean) (by decide) rfl (Nat.le_of_ble_eq_true rfl) ?_
  intro p e s m below meth c Q A hx hb hml hown hts hK hret H locs hP hD hS ls hl
  have hown : s.vm.findClass RX5 = some m.cls := hown
  have hl : lv_has ls 8 [(0, .ref hn0), (1, .int (zI way)), (2, .int (zI ((seen : Nat) : Int))), (3, .int (zI made))] := hl
  have f15 := hts (.fieldLink RX5 15 "QuarterTurns$Rounds" "bed" "LQuarterTurns$Bed;") (by decide +kernel)
  have i5 : ∀ w ∈ wsX50, w ∈ wsX5_goOn := fun w h => List.mem_cons_of_mem _ (List.mem_append_left _ (List.mem_append_right _ h))
  have f40 := hts (.fieldLink RX5 40 "QuarterTurns$Bed" "ways" "I") (by decide +kernel)
  have i0 : ∀ w ∈ wsX00, w ∈ wsX5_goOn := fun w h => List.mem_cons_of_mem _ (List.mem_append_right _ h)
  have f23 := hts (.fieldLink RX5 23 "QuarterTurns$Rounds" "set" "I") (by decide +kernel)
  have f9 := hts (.fieldLink RX5 9 "QuarterTurns$Rounds" "row" "[I") (by decide +kernel)
  have f19 := hts (.fieldLink RX5 19 "QuarterTurns$Rounds" "home" "I") (by decide +kernel)
  have hlast := last_iff (by omega) hsl hcn
  have hs4 : seen < 4096 := by have h1 : 2 ^ Wy.toNat ≤ 2 ^ 12 := Nat.pow_le_pow_right (by omega) (by omega); omega
  refine lv_iload_n hx hb dX5_goOn_0 rfl (lv_at hl 3 rfl) ?_
  refine lv_aload_n hx hb dX5_goOn_1 rfl (lv_at hl 0 rfl) ?_
  refine va_get (ci := 5) (v := .ref hb0) (C := RX5) (T := TX5) (N := 4) hx hb hts i5 hown hK hP 0 rfl rfl 0 (by decide) f15 (fun _ h9 => h9) rfl dX5_goOn_2 ?_
  refine va_get (ci := 0) (v := .int (zI Wy)) (C := RX0) (T := TX0) (N := 6) hx hb hts i0 hown hK hP 1 rfl rfl 2 (by decide) f40 (fun _ h9 => h9) rfl dX5_goOn_5 ?_
  refine z_icmp_lt (tgt := 13) hx hb (by omega) dX5_goOn_8 (by decide) (fun c_1 => ?_) (fun c_1 => ?_)
  · refine lv_iload_n hx hb dX5_goOn_13 rfl (lv_at hl 3 rfl) ?_
    refine lv_aload_n hx hb dX5_goOn_14 rfl (lv_at hl 0 rfl) ?_
    refine va_get (ci := 5) (v := .ref hb0) (C := RX5) (T := TX5) (N := 4) hx hb hts i5 hown hK hP 0 rfl rfl 0 (by decide) f15 (fun _ h9 => h9) rfl dX5_goOn_15 ?_
    refine va_get (ci := 0) (v := .int (zI Wy)) (C := RX0) (T := TX0) (N := 6) hx hb hts i0 hown hK hP 1 rfl rfl 2 (by decide) f40 (fun _ h9 => h9) rfl dX5_goOn_18 ?_
    refine lv_iconst (v := zI 1) hx hb dX5_goOn_21 rfl ?_
    refine z_isub hx hb dX5_goOn_22 ?_
    refine z_icmp_ne (tgt := 30) hx hb (by omega) dX5_goOn_23 (by decide) (fun c_2 => ?_) (fun c_2 => ?_)
    · refine lv_iconst (v := zI 0) hx hb dX5_goOn_30 rfl ?_
      refine lv_istore (lv' := [(4, .int (zI 0)), (0, .ref hn0), (1, .int (zI way)), (2, .int (zI ((seen : Nat) : Int))), (3, .int (zI made))]) hx hb dX5_goOn_31 hl (by decide) rfl (fun ls hl => ?_)
      refine lv_iconst (v := zI 0) hx hb dX5_goOn_33 rfl ?_
      refine lv_istore (lv' := [(5, .int (zI 0)), (4, .int (zI 0)), (0, .ref hn0), (1, .int (zI way)), (2, .int (zI ((seen : Nat) : Int))), (3, .int (zI made))]) hx hb dX5_goOn_34 hl (by decide) rfl (fun ls hl => ?_)
      have loop36 : ∀ (n_ : Nat) (t : Int) (g : Int → Int) (H : Heap) (locs : List Loc) (ls : Array Slot), (0 ≤ t ∧ t ≤ Wy) → (∀ j : Nat, (j : Int) < t → okM S Wy set.toNat hm (exM S Wy set.toNat hm d) way seen j = false) → (∀ j : Int, 0 ≤ j → j < made → g j = rr j) → (Wy - t).toNat < n_ → kP G [(hn0, .inr (5, [.ref hb0, .ref aro, .int (zI hm), .int (zI set)])), (hb0, .inr (0, [.int (zI S), .int (zI C), .int (zI Wy), .int (zI Li), .int (zI St), .ref al])), (aro, .inl (G.2.1, 12, .inl (aZ g)))] H → va_D A [(hn0, .inr (5, [.ref hb0, .ref aro, .int (zI hm), .int (zI set)])), (hb0, .inr (0, [.int (zI S), .int (zI C), .int (zI Wy), .int (zI Li), .int (zI St), .ref al])), (aro, .inl (G.2.1, 12, .inl (aZ g)))] → va_S A s.heap H locs → lv_has ls 8 [(5, .int (zI t)), (4, .int (zI 0)), (0, .ref hn0), (1, .int (zI way)), (2, .int (zI ((seen : Nat) : Int))), (3, .int (zI made))] → W p l e (rmX5_goOn (d + 1)) s m ([.ref hn0, .int (zI way), .int (zI ((seen : Nat) : Int)), .int (zI made)] : List Value).toArray below meth c H locs 0 0 Q (F0 m 36 ls []) := by
        intro n_
        induction n_ with
        | zero =>
          intro t g H locs ls ht hno hpre hm
          exact absurd hm (Nat.not_lt_zero _)
        | succ n_ ih36 =>
          intro t g H locs ls ht hno hpre hm36 hP hD hS hl
          refine lv_iload hx hb dX5_goOn_36 (lv_at hl 0 rfl) ?_
          refine lv_aload_n hx hb dX5_goOn_38 rfl (lv_at hl 2 rfl) ?_
          refine va_get (ci := 5) (v := .ref hb0) (C := RX5) (T := TX5) (N := 4) hx hb hts i5 hown hK hP 0 rfl rfl 0 (by decide) f15 (fun _ h9 => h9) rfl dX5_goOn_39 ?_
          refine va_get (ci := 0) (v := .int (zI Wy)) (C := RX0) (T := TX0) (N := 6) hx hb hts i0 hown hK hP 1 rfl rfl 2 (by decide) f40 (fun _ h9 => h9) rfl dX5_goOn_42 ?_
          refine z_icmp_ge (tgt := 160) hx hb (by omega) dX5_goOn_45 (by decide) (fun c_3 => ?_) (fun c_3 => ?_)
          · have hmiss := go_miss (by omega) hno
            refine lv_iconst (v := zI 0) hx hb dX5_goOn_160 rfl ?_
            exact hret H locs ls 161 _ (g) (by decide) ⟨congrArg zI (if_neg (by exact hmiss)).symm, by exact ⟨fun h => absurd h hmiss, hpre⟩⟩ hP hS dX5_goOn_161
          · refine lv_aload_n hx hb dX5_goOn_48 rfl (lv_at hl 2 rfl) ?_
            refine va_get (ci := 5) (v := .int (zI set)) (C := RX5) (T := TX5) (N := 4) hx hb hts i5 hown hK hP 0 rfl rfl 3 (by decide) f23 (fun _ h9 => h9) rfl dX5_goOn_49 ?_
            refine lv_iload hx hb dX5_goOn_52 (lv_at hl 0 rfl) ?_
            refine z_ishrZ (a := set) hx hb (by omega) (by omega) dX5_goOn_54 ?_
            refine lv_iconst (v := zI 1) hx hb dX5_goOn_55 rfl ?_
            refine z_iand (a := set.toNat >>> t.toNat) (b := 1) hx hb dX5_goOn_56 ?_
            refine z_top (bit_ite set.toNat t.toNat) ?_
            refine z_ifne_b (tgt := 63) hx hb dX5_goOn_57 (by decide) (fun c_4 => ?_) (fun c_4 => ?_)
            · refine lv_aload_n hx hb dX5_goOn_63 rfl (lv_at hl 2 rfl) ?_
              refine va_get (ci := 5) (v := .ref hb0) (C := RX5) (T := TX5) (N := 4) hx hb hts i5 hown hK hP 0 rfl rfl 0 (by decide) f15 (fun _ h9 => h9) rfl dX5_goOn_64 ?_
              refine lv_iload_n hx hb dX5_goOn_67 rfl (lv_at hl 3 rfl) ?_
              refine lv_iload hx hb dX5_goOn_68 (lv_at hl 0 rfl) ?_
              refine z_cV (As := [.int (zI way), .int (zI t)]) (rest := []) ⟨hx, hb, hml, hown, hts⟩ (c_X0_from l G hb0 al S C Wy Li St way t (by first | assumption | omega) (by first | assumption | omega) (by first | assumption | omega)) (cwV 2 hts gX5_goOn_X0_from rfl rfl rfl pd_X0_from ⟨(by dsimp only [rmX5_goOn, rmX0_from]; omega), (by dsimp only [rmX5_goOn, rmX0_from]; omega)⟩) hK hP hS [1] rfl rfl rfl rfl rfl hl.1 rfl (Nat.le_of_ble_eq_true rfl) dX5_goOn_70 ⟨Nat.zero_le _, Nat.zero_le _⟩ (fun H locs hP hS => ?_)
              have hq_5 := fromZ_rng (C := C) (Wy := Wy) (w := way) (t := t) ((by first | assumption | omega)) ((by first | assumption | omega)) ((by first | assumption | omega))
              refine lv_istore (lv' := [(6, .int (zI (fromZ S way t))), (5, .int (zI t)), (4, .int (zI 0)), (0, .ref hn0), (1, .int (zI way)), (2, .int (zI ((seen : Nat) : Int))), (3, .int (zI made))]) hx hb dX5_goOn_73 hl (by decide) rfl (fun ls hl => ?_)
              refine lv_iload hx hb dX5_goOn_75 (lv_at hl 2 rfl) ?_
              refine z_if_eq (tgt := 97) hx hb (by omega) dX5_goOn_77 (by decide) (fun c_6 => ?_) (fun c_6 => ?_)
              · refine lv_iload_n hx hb dX5_goOn_97 rfl (lv_at hl 5 rfl) ?_
                refine lv_iload hx hb dX5_goOn_98 (lv_at hl 0 rfl) ?_
                refine z_ishr (a := seen) hx hb (by omega) (by omega) dX5_goOn_100 ?_
                refine lv_iconst (v := zI 1) hx hb dX5_goOn_101 rfl ?_
                refine z_iand (a := seen >>> (fromZ S way t).toNat) (b := 1) hx hb dX5_goOn_102 ?_
                refine z_top (bit_ite seen (fromZ S way t).toNat) ?_
                refine z_ifne_b (tgt := 110) hx hb dX5_goOn_103 (by decide) (fun c_7 => ?_) (fun c_7 => ?_)
                · refine lv_iconst (v := zI 0) hx hb dX5_goOn_110 rfl ?_
                  refine lv_istore (lv' := [(7, .int (zI 0)), (6, .int (zI (fromZ S way t))), (5, .int (zI t)), (4, .int (zI 0)), (0, .ref hn0), (1, .int (zI way)), (2, .int (zI ((seen : Nat) : Int))), (3, .int (zI made))]) hx hb dX5_goOn_111 hl (by decide) rfl (fun ls hl => ?_)
                  refine lv_iload hx hb dX5_goOn_113 (lv_at hl 0 rfl) ?_
                  refine z_if_ne (tgt := 121) hx hb (by omega) dX5_goOn_115 (by decide) (fun c_8 => ?_) (fun c_8 => ?_)
                  · exact absurd c_8 (by omega)
                  · refine lv_goto (tgt := 154) hx hb dX5_goOn_118 (by decide) ?_
                    have hokf : okM S Wy set.toNat hm (exM S Wy set.toNat hm d) way seen t.toNat = false := by
                      first
                      | exact okM_no (by assumption)
                      | (rw [okM_on ht.1 (fun h => absurd (hlast.mp h) (by omega)) (by assumption), show seen.testBit (fromZ S way t).toNat = true by assumption]; rfl)
                      | (rw [okM_on ht.1 (fun h => absurd (hlast.mp h) (by omega)) (by assumption), show exM S Wy set.toNat hm d (fromZ S way t) (seen ||| 2 ^ (fromZ S way t).toNat) = false from Bool.eq_false_iff.mpr (by assumption), Bool.and_false])
                    refine lv_iinc (v := zI (t + 1)) (lv' := [(5, .int (zI (t + 1))), (7, .int (zI 0)), (6, .int (zI (fromZ S way t))), (4, .int (zI 0)), (0, .ref hn0), (1, .int (zI way)), (2, .int (zI ((seen : Nat) : Int))), (3, .int (zI made))]) hx hb dX5_goOn_154 hl (k := 2) rfl (zI_add _ _) (by decide) rfl (fun ls hl => ?_)
                    refine lv_goto (tgt := 36) hx hb dX5_goOn_157 (by decide) ?_
                    exact ih36 (t + 1) g H locs ls (by omega) (by exact hno_step ht.1 (by first | exact okM_no (by assumption) | exact hokf) hno) (by intro j h1 h2; first | exact hpre j h1 h2 | (rw [hpre2 j h1 (by omega), uZ_ne _ _ (by omega)]; exact hpre j h1 h2)) (by omega) hP hD hS (lv_sub hl [0, 3, 4, 5, 6, 7] rfl)
                · refine lv_iconst (v := zI 1) hx hb dX5_goOn_106 rfl ?_
                  refine lv_goto (tgt := 111) hx hb dX5_goOn_107 (by decide) ?_
                  refine lv_istore (lv' := [(7, .int (zI 1)), (6, .int (zI (fromZ S way t))), (5, .int (zI t)), (4, .int (zI 0)), (0, .ref hn0), (1, .int (zI way)), (2, .int (zI ((seen : Nat) : Int))), (3, .int (zI made))]) hx hb dX5_goOn_111 hl (by decide) rfl (fun ls hl => ?_)
                  refine lv_iload hx hb dX5_goOn_113 (lv_at hl 0 rfl) ?_
                  refine z_if_ne (tgt := 121) hx hb (by omega) dX5_goOn_115 (by decide) (fun c_9 => ?_) (fun c_9 => ?_)
                  · refine lv_aload_n hx hb dX5_goOn_121 rfl (lv_at hl 4 rfl) ?_
                    refine va_get (ci := 5) (v := .ref aro) (C := RX5) (T := TX5) (N := 4) hx hb hts i5 hown hK hP 0 rfl rfl 1 (by decide) f9 (fun _ h9 => h9) rfl dX5_goOn_122 ?_
                    refine lv_iload_n hx hb dX5_goOn_125 rfl (lv_at hl 7 rfl) ?_
                    refine lv_iload hx hb dX5_goOn_126 (lv_at hl 2 rfl) ?_
                    refine z_iast (n := 12) (f := g) (i := made) (v := t) hx hb hK hP hD hS 2 rfl (by omega) dX5_goOn_128 (fun H locs hP hD hS => ?_)
                    have hP : kP G [(hn0, .inr (5, [.ref hb0, .ref aro, .int (zI hm), .int (zI set)])), (hb0, .inr (0, [.int (zI S), .int (zI C), .int (zI Wy), .int (zI Li), .int (zI St), .ref al])), (aro, .inl (G.2.1, 12, .inl (aZ (uZ g made t))))] H := hP
                    have hD : va_D A [(hn0, .inr (5, [.ref hb0, .ref aro, .int (zI hm), .int (zI set)])), (hb0, .inr (0, [.int (zI S), .int (zI C), .int (zI Wy), .int (zI Li), .int (zI St), .ref al])), (aro, .inl (G.2.1, 12, .inl (aZ (uZ g made t))))] := hD
                    refine lv_iload hx hb dX5_goOn_129 (lv_at hl 3 rfl) ?_
                    refine z_if_ne (tgt := 152) hx hb (by omega) dX5_goOn_131 (by decide) (fun c_10 => ?_) (fun c_10 => ?_)
                    · exact absurd c_10 (by omega)
                    · refine lv_aload_n hx hb dX5_goOn_134 rfl (lv_at hl 4 rfl) ?_
                      refine lv_iload hx hb dX5_goOn_135 (lv_at hl 1 rfl) ?_
                      refine lv_iload_n hx hb dX5_goOn_137 rfl (lv_at hl 6 rfl) ?_
                      refine lv_iconst (v := zI 1) hx hb dX5_goOn_138 rfl ?_
                      refine lv_iload hx hb dX5_goOn_139 (lv_at hl 1 rfl) ?_
                      refine z_shl1 hx hb (by omega) dX5_goOn_141 ?_
                      refine z_ior (a := seen) (b := (2 ^ (fromZ S way t).toNat)) hx hb dX5_goOn_142 ?_
                      refine lv_iload_n hx hb dX5_goOn_143 rfl (lv_at hl 7 rfl) ?_
                      refine lv_iconst (v := zI 1) hx hb dX5_goOn_144 rfl ?_
                      refine z_iadd hx hb dX5_goOn_145 ?_
                      refine z_wV (As := [.int (zI (fromZ S way t)), .int (zI ((seen ||| (2 ^ (fromZ S way t).toNat) : Nat) : Int)), .int (zI (made + 1))]) (rest := []) ⟨hx, hb, hml, hown, hts⟩ (ih hn0 aro hm set hb0 al S C Wy Li St (uZ g made t) (fromZ S way t) (seen ||| (2 ^ (fromZ S way t).toNat)) (made + 1) (by first | assumption | omega) (by exact hh) (by first | assumption | omega) (by first | assumption | omega) (by first | assumption | omega) (by first | assumption | omega) (by exact Nat.or_lt_two_pow hsl (bit_ltW (by omega) (by omega))) (by rw [cntN_or (by assumption), if_pos (by omega)]; omega)) (cwV 3 hts gX5_goOn_X5_goOn rfl rfl rfl pd_X5_goOn ⟨(by dsimp only [rmX5_goOn, rmX0_from]; omega), (by dsimp only [rmX5_goOn, rmX0_from]; omega)⟩) hK hP hD hS [0, 1, 2] (by decide) rfl rfl rfl rfl (fun _ => rfl) rfl hl.1 rfl (Nat.le_of_ble_eq_true rfl) dX5_goOn_146 ⟨Nat.zero_le _, Nat.zero_le _⟩ (fun r_ u_ H locs hw_12 hP hD hS => ?_)
                      obtain ⟨rr2_11, rfl⟩ : ∃ z, z = u_ := ⟨_, rfl⟩
                      obtain ⟨rfl, hw_12⟩ := hw_12
                      try dsimp only at hw_12
                      obtain ⟨hrw_13, hpr_14⟩ := hw_12
                      have hP : kP G [(hn0, .inr (5, [.ref hb0, .ref aro, .int (zI hm), .int (zI set)])), (hb0, .inr (0, [.int (zI S), .int (zI C), .int (zI Wy), .int (zI Li), .int (zI St), .ref al])), (aro, .inl (G.2.1, 12, .inl (aZ rr2_11)))] H := hP
                      have hD : va_D A [(hn0, .inr (5, [.ref hb0, .ref aro, .int (zI hm), .int (zI set)])), (hb0, .inr (0, [.int (zI S), .int (zI C), .int (zI Wy), .int (zI Li), .int (zI St), .ref al])), (aro, .inl (G.2.1, 12, .inl (aZ rr2_11)))] := hD
                      refine z_ifeq_b (tgt := 154) hx hb dX5_goOn_149 (by decide) (fun c_15 => ?_) (fun c_15 => ?_)
                      · have hokf : okM S Wy set.toNat hm (exM S Wy set.toNat hm d) way seen t.toNat = false := by
                          first
                          | exact okM_no (by assumption)
                          | (rw [okM_on ht.1 (fun h => absurd (hlast.mp h) (by omega)) (by assumption), show seen.testBit (fromZ S way t).toNat = true by assumption]; rfl)
                          | (rw [okM_on ht.1 (fun h => absurd (hlast.mp h) (by omega)) (by assumption), show exM S Wy set.toNat hm d (fromZ S way t) (seen ||| 2 ^ (fromZ S way t).toNat) = false from Bool.eq_false_iff.mpr (by assumption), Bool.and_false])
                        have hpre2 := hpr_14
                        refine lv_iinc (v := zI (t + 1)) (lv' := [(5, .int (zI (t + 1))), (7, .int (zI 1)), (6, .int (zI (fromZ S way t))), (4, .int (zI 0)), (0, .ref hn0), (1, .int (zI way)), (2, .int (zI ((seen : Nat) : Int))), (3, .int (zI made))]) hx hb dX5_goOn_154 hl (k := 2) rfl (zI_add _ _) (by decide) rfl (fun ls hl => ?_)
                        refine lv_goto (tgt := 36) hx hb dX5_goOn_157 (by decide) ?_
                        exact ih36 (t + 1) rr2_11 H locs ls (by omega) (by exact hno_step ht.1 (by first | exact okM_no (by assumption) | exact hokf) hno) (by intro j h1 h2; first | exact hpre j h1 h2 | (rw [hpre2 j h1 (by omega), uZ_ne _ _ (by omega)]; exact hpre j h1 h2)) (by omega) hP hD hS (lv_sub hl [0, 3, 4, 5, 6, 7] rfl)
                      · have hok : okM S Wy set.toNat hm (exM S Wy set.toNat hm d) way seen t.toNat = true := by rw [okM_on ht.1 (fun h => absurd (hlast.mp h) (by omega)) (by assumption), show seen.testBit (fromZ S way t).toNat = false from Bool.eq_false_iff.mpr (by assumption), show exM S Wy set.toNat hm d (fromZ S way t) (seen ||| 2 ^ (fromZ S way t).toNat) = true by assumption]; rfl
                        obtain ⟨hex, hft⟩ := go_hit ⟨ht.1, by omega⟩ hok hno
                        have hrw2 := go_row2 (made := made) ht.1 hft (hrw_13 (by assumption)) (by rw [hpr_14 made (by omega) (by omega), uZ_same])
                        have hpr2 : ∀ j : Int, 0 ≤ j → j < made → rr2_11 j = rr j := fun j h1 h2 => by rw [hpr_14 j h1 (by omega), uZ_ne _ _ (by omega)]; exact hpre j h1 h2
                        refine lv_iconst (v := zI 1) hx hb dX5_goOn_152 rfl ?_
                        exact hret H locs ls 153 _ (rr2_11) (by decide) ⟨congrArg zI (if_pos (by exact hex)).symm, by exact ⟨fun _ => hrw2, hpr2⟩⟩ hP hS dX5_goOn_153
                  · exact absurd c_9 (by omega)
              · exact absurd c_6 (by omega)
            · refine lv_goto (tgt := 154) hx hb dX5_goOn_60 (by decide) ?_
              have hokf : okM S Wy set.toNat hm (exM S Wy set.toNat hm d) way seen t.toNat = false := by
                first
                | exact okM_no (by assumption)
                | (rw [okM_on ht.1 (fun h => absurd (hlast.mp h) (by omega)) (by assumption), show seen.testBit (fromZ S way t).toNat = true by assumption]; rfl)
                | (rw [okM_on ht.1 (fun h => absurd (hlast.mp h) (by omega)) (by assumption), show exM S Wy set.toNat hm d (fromZ S way t) (seen ||| 2 ^ (fromZ S way t).toNat) = false from Bool.eq_false_iff.mpr (by assumption), Bool.and_false])
              refine lv_iinc (v := zI (t + 1)) (lv' := [(5, .int (zI (t + 1))), (4, .int (zI 0)), (0, .ref hn0), (1, .int (zI way)), (2, .int (zI ((seen : Nat) : Int))), (3, .int (zI made))]) hx hb dX5_goOn_154 hl (k := 0) rfl (zI_add _ _) (by decide) rfl (fun ls hl => ?_)
              refine lv_goto (tgt := 36) hx hb dX5_goOn_157 (by decide) ?_
              exact ih36 (t + 1) g H locs ls (by omega) (by exact hno_step ht.1 (by first | exact okM_no (by assumption) | exact hokf) hno) (by intro j h1 h2; first | exact hpre j h1 h2 | (rw [hpre2 j h1 (by omega), uZ_ne _ _ (by omega)]; exact hpre j h1 h2)) (by omega) hP hD hS (lv_sub hl [0, 1, 2, 3, 4, 5] rfl)
      exact loop36 _ 0 rr H locs ls (by omega) (by intro j hj; omega) (fun _ _ _ => rfl) (Nat.lt_succ_self _) hP hD hS (lv_sub hl [0, 1, 2, 3, 4, 5] rfl)
    · refine lv_iconst (v := zI 1) hx hb dX5_goOn_26 rfl ?_
      refine lv_goto (tgt := 31) hx hb dX5_goOn_27 (by decide) ?_
      refine lv_istore (lv' := [(4, .int (zI 1)), (0, .ref hn0), (1, .int (zI way)), (2, .int (zI ((seen : Nat) : Int))), (3, .int (zI made))]) hx hb dX5_goOn_31 hl (by decide) rfl (fun ls hl => ?_)
      refine lv_iconst (v := zI 0) hx hb dX5_goOn_33 rfl ?_
      refine lv_istore (lv' := [(5, .int (zI 0)), (4, .int (zI 1)), (0, .ref hn0), (1, .int (zI way)), (2, .int (zI ((seen : Nat) : Int))), (3, .int (zI made))]) hx hb dX5_goOn_34 hl (by decide) rfl (fun ls hl => ?_)
      have loop36 : ∀ (n_ : Nat) (t : Int) (g : Int → Int) (H : Heap) (locs : List Loc) (ls : Array Slot), (0 ≤ t ∧ t ≤ Wy) → (∀ j : Nat, (j : Int) < t → okM S Wy set.toNat hm (exM S Wy set.toNat hm d) way seen j = false) → (∀ j : Int, 0 ≤ j → j < made → g j = rr j) → (Wy - t).toNat < n_ → kP G [(hn0, .inr (5, [.ref hb0, .ref aro, .int (zI hm), .int (zI set)])), (hb0, .inr (0, [.int (zI S), .int (zI C), .int (zI Wy), .int (zI Li), .int (zI St), .ref al])), (aro, .inl (G.2.1, 12, .inl (aZ g)))] H → va_D A [(hn0, .inr (5, [.ref hb0, .ref aro, .int (zI hm), .int (zI set)])), (hb0, .inr (0, [.int (zI S), .int (zI C), .int (zI Wy), .int (zI Li), .int (zI St), .ref al])), (aro, .inl (G.2.1, 12, .inl (aZ g)))] → va_S A s.heap H locs → lv_has ls 8 [(5, .int (zI t)), (4, .int (zI 1)), (0, .ref hn0), (1, .int (zI way)), (2, .int (zI ((seen : Nat) : Int))), (3, .int (zI made))] → W p l e (rmX5_goOn (d + 1)) s m ([.ref hn0, .int (zI way), .int (zI ((seen : Nat) : Int)), .int (zI made)] : List Value).toArray below meth c H locs 0 0 Q (F0 m 36 ls []) := by
        intro n_
        induction n_ with
        | zero =>
          intro t g H locs ls ht hno hpre hm
          exact absurd hm (Nat.not_lt_zero _)
        | succ n_ ih36 =>
          intro t g H locs ls ht hno hpre hm36 hP hD hS hl
          refine lv_iload hx hb dX5_goOn_36 (lv_at hl 0 rfl) ?_
          refine lv_aload_n hx hb dX5_goOn_38 rfl (lv_at hl 2 rfl) ?_
          refine va_get (ci := 5) (v := .ref hb0) (C := RX5) (T := TX5) (N := 4) hx hb hts i5 hown hK hP 0 rfl rfl 0 (by decide) f15 (fun _ h9 => h9) rfl dX5_goOn_39 ?_
          refine va_get (ci := 0) (v := .int (zI Wy)) (C := RX0) (T := TX0) (N := 6) hx hb hts i0 hown hK hP 1 rfl rfl 2 (by decide) f40 (fun _ h9 => h9) rfl dX5_goOn_42 ?_
          refine z_icmp_ge (tgt := 160) hx hb (by omega) dX5_goOn_45 (by decide) (fun c_16 => ?_) (fun c_16 => ?_)
          · have hmiss := go_miss (by omega) hno
            refine lv_iconst (v := zI 0) hx hb dX5_goOn_160 rfl ?_
            exact hret H locs ls 161 _ (g) (by decide) ⟨congrArg zI (if_neg (by exact hmiss)).symm, by exact ⟨fun h => absurd h hmiss, hpre⟩⟩ hP hS dX5_goOn_161
          · refine lv_aload_n hx hb dX5_goOn_48 rfl (lv_at hl 2 rfl) ?_
            refine va_get (ci := 5) (v := .int (zI set)) (C := RX5) (T := TX5) (N := 4) hx hb hts i5 hown hK hP 0 rfl rfl 3 (by decide) f23 (fun _ h9 => h9) rfl dX5_goOn_49 ?_
            refine lv_iload hx hb dX5_goOn_52 (lv_at hl 0 rfl) ?_
            refine z_ishrZ (a := set) hx hb (by omega) (by omega) dX5_goOn_54 ?_
            refine lv_iconst (v := zI 1) hx hb dX5_goOn_55 rfl ?_
            refine z_iand (a := set.toNat >>> t.toNat) (b := 1) hx hb dX5_goOn_56 ?_
            refine z_top (bit_ite set.toNat t.toNat) ?_
            refine z_ifne_b (tgt := 63) hx hb dX5_goOn_57 (by decide) (fun c_17 => ?_) (fun c_17 => ?_)
            · refine lv_aload_n hx hb dX5_goOn_63 rfl (lv_at hl 2 rfl) ?_
              refine va_get (ci := 5) (v := .ref hb0) (C := RX5) (T := TX5) (N := 4) hx hb hts i5 hown hK hP 0 rfl rfl 0 (by decide) f15 (fun _ h9 => h9) rfl dX5_goOn_64 ?_
              refine lv_iload_n hx hb dX5_goOn_67 rfl (lv_at hl 3 rfl) ?_
              refine lv_iload hx hb dX5_goOn_68 (lv_at hl 0 rfl) ?_
              refine z_cV (As := [.int (zI way), .int (zI t)]) (rest := []) ⟨hx, hb, hml, hown, hts⟩ (c_X0_from l G hb0 al S C Wy Li St way t (by first | assumption | omega) (by first | assumption | omega) (by first | assumption | omega)) (cwV 2 hts gX5_goOn_X0_from rfl rfl rfl pd_X0_from ⟨(by dsimp only [rmX5_goOn, rmX0_from]; omega), (by dsimp only [rmX5_goOn, rmX0_from]; omega)⟩) hK hP hS [1] rfl rfl rfl rfl rfl hl.1 rfl (Nat.le_of_ble_eq_true rfl) dX5_goOn_70 ⟨Nat.zero_le _, Nat.zero_le _⟩ (fun H locs hP hS => ?_)
              have hq_18 := fromZ_rng (C := C) (Wy := Wy) (w := way) (t := t) ((by first | assumption | omega)) ((by first | assumption | omega)) ((by first | assumption | omega))
              refine lv_istore (lv' := [(6, .int (zI (fromZ S way t))), (5, .int (zI t)), (4, .int (zI 1)), (0, .ref hn0), (1, .int (zI way)), (2, .int (zI ((seen : Nat) : Int))), (3, .int (zI made))]) hx hb dX5_goOn_73 hl (by decide) rfl (fun ls hl => ?_)
              refine lv_iload hx hb dX5_goOn_75 (lv_at hl 2 rfl) ?_
              refine z_if_eq (tgt := 97) hx hb (by omega) dX5_goOn_77 (by decide) (fun c_19 => ?_) (fun c_19 => ?_)
              · exact absurd c_19 (by omega)
              · refine lv_iload hx hb dX5_goOn_80 (lv_at hl 0 rfl) ?_
                refine lv_aload_n hx hb dX5_goOn_82 rfl (lv_at hl 3 rfl) ?_
                refine va_get (ci := 5) (v := .int (zI hm)) (C := RX5) (T := TX5) (N := 4) hx hb hts i5 hown hK hP 0 rfl rfl 2 (by decide) f19 (fun _ h9 => h9) rfl dX5_goOn_83 ?_
                refine z_icmp_ne (tgt := 93) hx hb (by omega) dX5_goOn_86 (by decide) (fun c_20 => ?_) (fun c_20 => ?_)
                · refine lv_iconst (v := zI 0) hx hb dX5_goOn_93 rfl ?_
                  refine lv_goto (tgt := 111) hx hb dX5_goOn_94 (by decide) ?_
                  refine lv_istore (lv' := [(7, .int (zI 0)), (6, .int (zI (fromZ S way t))), (5, .int (zI t)), (4, .int (zI 1)), (0, .ref hn0), (1, .int (zI way)), (2, .int (zI ((seen : Nat) : Int))), (3, .int (zI made))]) hx hb dX5_goOn_111 hl (by decide) rfl (fun ls hl => ?_)
                  refine lv_iload hx hb dX5_goOn_113 (lv_at hl 0 rfl) ?_
                  refine z_if_ne (tgt := 121) hx hb (by omega) dX5_goOn_115 (by decide) (fun c_21 => ?_) (fun c_21 => ?_)
                  · exact absurd c_21 (by omega)
                  · refine lv_goto (tgt := 154) hx hb dX5_goOn_118 (by decide) ?_
                    have hokf : okM S Wy set.toNat hm (exM S Wy set.toNat hm d) way seen t.toNat = false := by
                      first
                      | exact okM_no (by assumption)
                      | (rw [okM_last ht.1 (hlast.mpr (by omega)) (by assumption)]; exact decide_eq_false (by assumption))
                    refine lv_iinc (v := zI (t + 1)) (lv' := [(5, .int (zI (t + 1))), (7, .int (zI 0)), (6, .int (zI (fromZ S way t))), (4, .int (zI 1)), (0, .ref hn0), (1, .int (zI way)), (2, .int (zI ((seen : Nat) : Int))), (3, .int (zI made))]) hx hb dX5_goOn_154 hl (k := 2) rfl (zI_add _ _) (by decide) rfl (fun ls hl => ?_)
                    refine lv_goto (tgt := 36) hx hb dX5_goOn_157 (by decide) ?_
                    exact ih36 (t + 1) g H locs ls (by omega) (by exact hno_step ht.1 (by first | exact okM_no (by assumption) | exact hokf) hno) (by intro j h1 h2; first | exact hpre j h1 h2 | (rw [hpre2 j h1 (by omega), uZ_ne _ _ (by omega)]; exact hpre j h1 h2)) (by omega) hP hD hS (lv_sub hl [0, 3, 4, 5, 6, 7] rfl)
                · refine lv_iconst (v := zI 1) hx hb dX5_goOn_89 rfl ?_
                  refine lv_goto (tgt := 111) hx hb dX5_goOn_90 (by decide) ?_
                  refine lv_istore (lv' := [(7, .int (zI 1)), (6, .int (zI (fromZ S way t))), (5, .int (zI t)), (4, .int (zI 1)), (0, .ref hn0), (1, .int (zI way)), (2, .int (zI ((seen : Nat) : Int))), (3, .int (zI made))]) hx hb dX5_goOn_111 hl (by decide) rfl (fun ls hl => ?_)
                  refine lv_iload hx hb dX5_goOn_113 (lv_at hl 0 rfl) ?_
                  refine z_if_ne (tgt := 121) hx hb (by omega) dX5_goOn_115 (by decide) (fun c_22 => ?_) (fun c_22 => ?_)
                  · refine lv_aload_n hx hb dX5_goOn_121 rfl (lv_at hl 4 rfl) ?_
                    refine va_get (ci := 5) (v := .ref aro) (C := RX5) (T := TX5) (N := 4) hx hb hts i5 hown hK hP 0 rfl rfl 1 (by decide) f9 (fun _ h9 => h9) rfl dX5_goOn_122 ?_
                    refine lv_iload_n hx hb dX5_goOn_125 rfl (lv_at hl 7 rfl) ?_
                    refine lv_iload hx hb dX5_goOn_126 (lv_at hl 2 rfl) ?_
                    refine z_iast (n := 12) (f := g) (i := made) (v := t) hx hb hK hP hD hS 2 rfl (by omega) dX5_goOn_128 (fun H locs hP hD hS => ?_)
                    have hP : kP G [(hn0, .inr (5, [.ref hb0, .ref aro, .int (zI hm), .int (zI set)])), (hb0, .inr (0, [.int (zI S), .int (zI C), .int (zI Wy), .int (zI Li), .int (zI St), .ref al])), (aro, .inl (G.2.1, 12, .inl (aZ (uZ g made t))))] H := hP
                    have hD : va_D A [(hn0, .inr (5, [.ref hb0, .ref aro, .int (zI hm), .int (zI set)])), (hb0, .inr (0, [.int (zI S), .int (zI C), .int (zI Wy), .int (zI Li), .int (zI St), .ref al])), (aro, .inl (G.2.1, 12, .inl (aZ (uZ g made t))))] := hD
                    refine lv_iload hx hb dX5_goOn_129 (lv_at hl 3 rfl) ?_
                    refine z_if_ne (tgt := 152) hx hb (by omega) dX5_goOn_131 (by decide) (fun c_23 => ?_) (fun c_23 => ?_)
                    · have hok : okM S Wy set.toNat hm (exM S Wy set.toNat hm d) way seen t.toNat = true := by rw [okM_last ht.1 (hlast.mpr (by omega)) (by assumption)]; exact decide_eq_true (by assumption)
                      obtain ⟨hex, hft⟩ := go_hit ⟨ht.1, by omega⟩ hok hno
                      have hrw2 := go_row1 (g := g) (made := made) ht.1 hft (by omega)
                      have hpr2 : ∀ j : Int, 0 ≤ j → j < made → uZ g made t j = rr j := fun j h1 h2 => by rw [uZ_ne _ _ (by omega)]; exact hpre j h1 h2
                      refine lv_iconst (v := zI 1) hx hb dX5_goOn_152 rfl ?_
                      exact hret H locs ls 153 _ (uZ g made t) (by decide) ⟨congrArg zI (if_pos (by exact hex)).symm, by exact ⟨fun _ => hrw2, hpr2⟩⟩ hP hS dX5_goOn_153
                    · exact absurd c_23 (by omega)
                  · exact absurd c_22 (by omega)
            · refine lv_goto (tgt := 154) hx hb dX5_goOn_60 (by decide) ?_
              have hokf : okM S Wy set.toNat hm (exM S Wy set.toNat hm d) way seen t.toNat = false := by
                first
                | exact okM_no (by assumption)
                | (rw [okM_last ht.1 (hlast.mpr (by omega)) (by assumption)]; exact decide_eq_false (by assumption))
              refine lv_iinc (v := zI (t + 1)) (lv' := [(5, .int (zI (t + 1))), (4, .int (zI 1)), (0, .ref hn0), (1, .int (zI way)), (2, .int (zI ((seen : Nat) : Int))), (3, .int (zI made))]) hx hb dX5_goOn_154 hl (k := 0) rfl (zI_add _ _) (by decide) rfl (fun ls hl => ?_)
              refine lv_goto (tgt := 36) hx hb dX5_goOn_157 (by decide) ?_
              exact ih36 (t + 1) g H locs ls (by omega) (by exact hno_step ht.1 (by first | exact okM_no (by assumption) | exact hokf) hno) (by intro j h1 h2; first | exact hpre j h1 h2 | (rw [hpre2 j h1 (by omega), uZ_ne _ _ (by omega)]; exact hpre j h1 h2)) (by omega) hP hD hS (lv_sub hl [0, 1, 2, 3, 4, 5] rfl)
      exact loop36 _ 0 rr H locs ls (by omega) (by intro j hj; omega) (fun _ _ _ => rfl) (Nat.lt_succ_self _) hP hD hS (lv_sub hl [0, 1, 2, 3, 4, 5] rfl)
  · exact absurd c_1 (by omega)
theorem pd_X5_find : yX5_find.cls = RX5 ∧ yX5_find.cls ≠ "java/lang/invoke/MethodHandle" ∧ yX5_find.cls ≠ "java/lang/invoke/VarHandle" ∧ (parseMethodDescriptor yX5_find.desc).map (fun d => d.parameters.length) = some 2 := by decide +kernel
abbrev rmX5_find : Room := { frames := 17, cells := 0, slots := 0, locals := 627 }
set_option maxHeartbeats 4000000 in
set_option maxRecDepth 100000 in
theorem c_X5_find (l : Launch) (G : CX) (hn0 : Nat) (aro : Nat) (hm : Int) (set : Int) (hb0 : Nat) (al : Nat) (S : Int) (C : Int) (Wy : Int) (Li : Int) (St : Int) (rr : Int → Int) (fr : Int) (tus : Int) (hB : (2 ≤ S ∧ S ≤ 6) ∧ (C = 1 ∧ Wy = S ∨ C = 2 ∧ Wy = 2 * S)) (hf : 0 ≤ fr ∧ fr < Wy) (hts : 0 ≤ tus ∧ tus < 4096) : Met l yX5_find wsX5_find rmX5_find (wrP G [.ref hn0, .int (zI fr), .int (zI tus)] [(hn0, .inr (5, [.ref hb0, .ref aro, .int (zI hm), .int (zI set)])), (hb0, .inr (0, [.int (zI S), .int (zI C), .int (zI Wy), .int (zI Li), .int (zI St), .ref al])), (aro, .inl (G.2.1, 12, .inl (aZ rr)))]) (wrQ G [(hn0, .inr (5, [.ref hb0, .ref aro, .int (zI hm), .int (zI set)])), (hb0, .inr (0, [.int (zI S), .int (zI C), .int (zI Wy), .int (zI Li), .int (zI St), .ref al])), (aro, .inl (G.2.1, 12, .inl (aZ rr)))] (fun (r_ : Int32) (u : (Int → Int)) => match u with | rr2 => r_ = zI (if (reS S Wy.toNat tus.toNat fr Wy.toNat = fullN Wy ∧ exM S Wy tus.toNat fr 12 fr (2 ^ fr.toNat) = true) then 1 else 0) ∧ (((reS S Wy.toNat tus.toNat fr Wy.toNat = fullN Wy ∧ exM S Wy tus.toNat fr 12 fr (2 ^ fr.toNat) = true) → ∀ j : Int, 0 ≤ j → j < Wy → rr2 j = rwM S Wy tus.toNat fr 12 fr (2 ^ fr.toNat) j.toNat))) (fun (u : (Int → Int)) => match u with | rr2 => [(hn0, .inr (5, [.ref hb0, .ref aro, .int (zI fr), .int (zI tus)])), (hb0, .inr (0, [.int (zI S), .int (zI C), .int (zI Wy), .int (zI Li), .int (zI St), .ref al])), (aro, .inl (G.2.1, 12, .inl (aZ rr2)))])) 0 0 (wrA [(hn0, .inr (5, [.ref hb0, .ref aro, .int (zI hm), .int (zI set)])), (hb0, .inr (0, [.int (zI S), .int (zI C), .int (zI Wy), .int (zI Li), .int (zI St), .ref al])), (aro, .inl (G.2.1, 12, .inl (aZ rr)))]) := by
  refine wr_ofW (cc := cX5_find) (maxL := 3) (ty := .boolean) (by decide) rfl (Nat.le_of_ble_eq_true rfl) ?_
  intro p e s m below meth c Q A hx hb hml hown hts hK hret H locs hP hD hS ls hl
  have hown : s.vm.findClass RX5 = some m.cls := hown
  have hl : lv_has ls 3 [(0, .ref hn0), (1, .int (zI fr)), (2, .int (zI tus))] := hl
  have f19 := hts (.fieldLink RX5 19 "QuarterTurns$Rounds" "home" "I") (by decide +kernel)
  have i5 : ∀ w ∈ wsX50, w ∈ wsX5_find := fun w h => List.mem_cons_of_mem _ (List.mem_append_left _ (List.mem_append_right _ h))
  have f23 := hts (.fieldLink RX5 23 "QuarterTurns$Rounds" "set" "I") (by decide +kernel)
  have f15 := hts (.fieldLink RX5 15 "QuarterTurns$Rounds" "bed" "LQuarterTurns$Bed;") (by decide +kernel)
  refine lv_aload_n hx hb dX5_find_0 rfl (lv_at hl 0 rfl) ?_
  refine lv_iload_n hx hb dX5_find_1 rfl (lv_at hl 1 rfl) ?_
  refine va_put (ci := 5) (v := .int (zI fr)) (ty := .int) (C := RX5) (T := TX5) (N := 4) hx hb hts i5 tyX5 tyX5_ok nmX5 hown hK hP hD hS 0 rfl rfl 2 (by decide) f19 (fun _ h9 => h9) rfl (tyX5_ok 2 (by decide)) rfl rfl (Nat.le_of_ble_eq_true rfl) dX5_find_2 (fun H locs hP hD hS => ?_)
  have hP : kP G [(hn0, .inr (5, [.ref hb0, .ref aro, .int (zI fr), .int (zI set)])), (hb0, .inr (0, [.int (zI S), .int (zI C), .int (zI Wy), .int (zI Li), .int (zI St), .ref al])), (aro, .inl (G.2.1, 12, .inl (aZ rr)))] H := hP
  have hD : va_D A [(hn0, .inr (5, [.ref hb0, .ref aro, .int (zI fr), .int (zI set)])), (hb0, .inr (0, [.int (zI S), .int (zI C), .int (zI Wy), .int (zI Li), .int (zI St), .ref al])), (aro, .inl (G.2.1, 12, .inl (aZ rr)))] := hD
  refine lv_aload_n hx hb dX5_find_5 rfl (lv_at hl 0 rfl) ?_
  refine lv_iload_n hx hb dX5_find_6 rfl (lv_at hl 2 rfl) ?_
  refine va_put (ci := 5) (v := .int (zI tus)) (ty := .int) (C := RX5) (T := TX5) (N := 4) hx hb hts i5 tyX5 tyX5_ok nmX5 hown hK hP hD hS 0 rfl rfl 3 (by decide) f23 (fun _ h9 => h9) rfl (tyX5_ok 3 (by decide)) rfl rfl (Nat.le_of_ble_eq_true rfl) dX5_find_7 (fun H locs hP hD hS => ?_)
  have hP : kP G [(hn0, .inr (5, [.ref hb0, .ref aro, .int (zI fr), .int (zI tus)])), (hb0, .inr (0, [.int (zI S), .int (zI C), .int (zI Wy), .int (zI Li), .int (zI St), .ref al])), (aro, .inl (G.2.1, 12, .inl (aZ rr)))] H := hP
  have hD : va_D A [(hn0, .inr (5, [.ref hb0, .ref aro, .int (zI fr), .int (zI tus)])), (hb0, .inr (0, [.int (zI S), .int (zI C), .int (zI Wy), .int (zI Li), .int (zI St), .ref al])), (aro, .inl (G.2.1, 12, .inl (aZ rr)))] := hD
  refine lv_aload_n hx hb dX5_find_10 rfl (lv_at hl 0 rfl) ?_
  refine va_get (ci := 5) (v := .ref hb0) (C := RX5) (T := TX5) (N := 4) hx hb hts i5 hown hK hP 0 rfl rfl 0 (by decide) f15 (fun _ h9 => h9) rfl dX5_find_11 ?_
  refine lv_iload_n hx hb dX5_find_14 rfl (lv_at hl 1 rfl) ?_
  refine lv_iload_n hx hb dX5_find_15 rfl (lv_at hl 2 rfl) ?_
  refine z_cV (As := [.int (zI fr), .int (zI tus)]) (rest := []) ⟨hx, hb, hml, hown, hts⟩ (c_X0_reached l G hb0 al S C Wy Li St fr tus (by first | assumption | omega) (by first | assumption | omega) (by first | assumption | omega)) (cwV 2 hts gX5_find_X0_reached rfl rfl rfl pd_X0_reached ⟨(Nat.le_of_ble_eq_true rfl), (Nat.le_of_ble_eq_true rfl)⟩) hK hP hS [1] rfl rfl rfl rfl rfl hl.1 rfl (Nat.le_of_ble_eq_true rfl) dX5_find_16 ⟨Nat.zero_le _, Nat.zero_le _⟩ (fun H locs hP hS => ?_)
  have hq_1 := reS_lt (Wy := Wy) (C := C) (home := fr) (tus.toNat) ((by first | assumption | omega)) ((by first | assumption | omega)) (Wy.toNat)
  refine lv_aload_n hx hb dX5_find_19 rfl (lv_at hl 0 rfl) ?_
  refine va_get (ci := 5) (v := .ref hb0) (C := RX5) (T := TX5) (N := 4) hx hb hts i5 hown hK hP 0 rfl rfl 0 (by decide) f15 (fun _ h9 => h9) rfl dX5_find_20 ?_
  refine z_cV (As := []) (rest := [.int (zI ((reS S Wy.toNat tus.toNat fr Wy.toNat : Nat) : Int))]) ⟨hx, hb, hml, hown, hts⟩ (c_X0_allBits l G hb0 al S C Wy Li St (by first | assumption | omega)) (cwV 0 hts gX5_find_X0_allBits rfl rfl rfl pd_X0_allBits ⟨(Nat.le_of_ble_eq_true rfl), (Nat.le_of_ble_eq_true rfl)⟩) hK hP hS [1] rfl rfl rfl rfl rfl hl.1 rfl (Nat.le_of_ble_eq_true rfl) dX5_find_23 ⟨Nat.zero_le _, Nat.zero_le _⟩ (fun H locs hP hS => ?_)
  have hq_2 := fullN_lt (W := Wy) (by omega)
  refine z_icmp_ne (tgt := 45) hx hb (by omega) dX5_find_26 (by decide) (fun c_3 => ?_) (fun c_3 => ?_)
  · refine lv_iconst (v := zI 0) hx hb dX5_find_45 rfl ?_
    exact hret H locs ls 46 _ (rr) (by decide) ⟨congrArg zI (if_neg (by rintro ⟨h1, h2⟩; first | omega | (exact absurd h2 (by assumption)))).symm, by rintro ⟨h1, h2⟩; first | omega | (exact absurd h2 (by assumption))⟩ hP hS dX5_find_46
  · refine lv_aload_n hx hb dX5_find_29 rfl (lv_at hl 0 rfl) ?_
    refine lv_iload_n hx hb dX5_find_30 rfl (lv_at hl 1 rfl) ?_
    refine lv_iconst (v := zI 1) hx hb dX5_find_31 rfl ?_
    refine lv_iload_n hx hb dX5_find_32 rfl (lv_at hl 1 rfl) ?_
    refine z_shl1 hx hb (by omega) dX5_find_33 ?_
    refine lv_iconst (v := zI 0) hx hb dX5_find_34 rfl ?_
    refine z_wV (As := [.int (zI fr), .int (zI ((2 ^ fr.toNat : Nat) : Int)), .int (zI 0)]) (rest := []) ⟨hx, hb, hml, hown, hts⟩ (c_X5_goOn l G 12 hn0 aro fr tus hb0 al S C Wy Li St rr fr (2 ^ fr.toNat) 0 (by first | assumption | omega) (by first | assumption | omega) (by first | assumption | omega) (by first | assumption | omega) (by first | assumption | omega) (by first | assumption | omega) (by exact bit_ltW (by omega) (by omega)) (by rw [cntN_one, if_pos (by omega)]; rfl)) (cwV 3 hts gX5_find_X5_goOn rfl rfl rfl pd_X5_goOn ⟨(Nat.le_of_ble_eq_true rfl), (Nat.le_of_ble_eq_true rfl)⟩) hK hP hD hS [0, 1, 2] (by decide) rfl rfl rfl rfl (fun _ => rfl) rfl hl.1 rfl (Nat.le_of_ble_eq_true rfl) dX5_find_35 ⟨Nat.zero_le _, Nat.zero_le _⟩ (fun r_ u_ H locs hw_5 hP hD hS => ?_)
    obtain ⟨rr2_4, rfl⟩ : ∃ z, z = u_ := ⟨_, rfl⟩
    obtain ⟨rfl, hw_5⟩ := hw_5
    try dsimp only at hw_5
    obtain ⟨hrw_6, hpr_7⟩ := hw_5
    have hP : kP G [(hn0, .inr (5, [.ref hb0, .ref aro, .int (zI fr), .int (zI tus)])), (hb0, .inr (0, [.int (zI S), .int (zI C), .int (zI Wy), .int (zI Li), .int (zI St), .ref al])), (aro, .inl (G.2.1, 12, .inl (aZ rr2_4)))] H := hP
    have hD : va_D A [(hn0, .inr (5, [.ref hb0, .ref aro, .int (zI fr), .int (zI tus)])), (hb0, .inr (0, [.int (zI S), .int (zI C), .int (zI Wy), .int (zI Li), .int (zI St), .ref al])), (aro, .inl (G.2.1, 12, .inl (aZ rr2_4)))] := hD
    refine z_ifeq_b (tgt := 45) hx hb dX5_find_38 (by decide) (fun c_8 => ?_) (fun c_8 => ?_)
    · refine lv_iconst (v := zI 0) hx hb dX5_find_45 rfl ?_
      exact hret H locs ls 46 _ (rr2_4) (by decide) ⟨congrArg zI (if_neg (by rintro ⟨h1, h2⟩; first | omega | (exact absurd h2 (by assumption)))).symm, by rintro ⟨h1, h2⟩; first | omega | (exact absurd h2 (by assumption))⟩ hP hS dX5_find_46
    · refine lv_iconst (v := zI 1) hx hb dX5_find_41 rfl ?_
      refine lv_goto (tgt := 46) hx hb dX5_find_42 (by decide) ?_
      exact hret H locs ls 46 _ (rr2_4) (by decide) ⟨congrArg zI (if_pos (by exact ⟨by omega, by assumption⟩)).symm, by intro _ j h1 h2; rw [hrw_6 (by assumption) j h1 h2, show (j - 0).toNat = j.toNat by omega]⟩ hP hS dX5_find_46
