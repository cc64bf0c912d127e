
theorem and_step {sm sm2 : Int} {b : Bool} {P : Prop} [Decidable P] (hsm : (sm = 1 ∧ b = true) ∨ (sm = 0 ∧ ¬ b = true)) (h : (sm2 = 1 ∧ sm = 1 ∧ P) ∨ (sm2 = 0 ∧ ¬ (sm = 1 ∧ P))) : (sm2 = 1 ∧ (b && decide P) = true) ∨ (sm2 = 0 ∧ ¬ (b && decide P) = true) := by
  rw [Bool.and_eq_true, decide_eq_true_eq]
  rcases hsm with ⟨h1, h2⟩ | ⟨h1, h2⟩ <;> rcases h with ⟨h3, h4, h5⟩ | ⟨h3, h4⟩
  · exact Or.inl ⟨h3, h2, h5⟩
  · exact Or.inr ⟨h3, fun h => h4 ⟨h1, h.2⟩⟩
  · omega
  · exact Or.inr ⟨h3, fun h => h2 h.1⟩
def smS (S t v : Int) : Nat → Bool
  | 0 => true
  | w + 1 => smS S t v w && decide (fromZ S (fromZ S (w : Int) t) v = fromZ S (fromZ S (w : Int) v) t)
def smI (S t : Int) (W : Nat) : Nat → Int → Int
  | 0, s => s
  | k + 1, s => smI S t W k s + (if smS S t (t + 1 + (k : Int)) W = true then 1 else 0)
def smO (S Wy : Int) : Nat → Int
  | 0 => 0
  | a + 1 => smI S (a : Int) Wy.toNat (Wy - ((a : Int) + 1)).toNat (smO S Wy a)
def rcT (S : Int) (set : Nat) (w : Int) : Nat → Nat → Nat
  | 0, x => x
  | k + 1, x => if (rcT S set w k x).testBit w.toNat = true ∧ set.testBit k = true then rcT S set w k x ||| 2 ^ (fromZ S w (k : Int)).toNat else rcT S set w k x
theorem rcT_stop {S : Int} {set : Nat} {w : Int} {k x : Nat} (h : ¬ (rcT S set w k x).testBit w.toNat = true) : ∀ j, rcT S set w (k + j) x = rcT S set w k x
  | 0 => rfl
  | j + 1 => by
    show (if (rcT S set w (k + j) x).testBit w.toNat = true ∧ set.testBit (k + j) = true then _ else rcT S set w (k + j) x) = _
    rw [rcT_stop h j, if_neg (fun h2 => h h2.1)]
def rcW (S : Int) (Wn set : Nat) : Nat → Nat → Nat
  | 0, x => x
  | w + 1, x => rcT S set (w : Int) Wn (rcW S Wn set w x)
def rcK (S : Int) (Wn set : Nat) (home : Int) : Nat → Nat
  | 0 => 2 ^ home.toNat
  | k + 1 => rcW S Wn set Wn (rcK S Wn set home k)
/-! seasons that go by, a turn made ahead of each -/
def lsW (S t home : Int) (ld wn : Int → Int) : Nat → Int → Int
  | 0 => wn
  | k + 1 => uZ (lsW S t home ld wn k) (wyI S t home (k + 1)) (lsW S t home ld wn k (wyI S t home (k + 1)) + ld (wyI S t home (k + 1)))
def tgF (S v : Int) (ld nf : Int → Int) : Int → Int :=
  uZ (uZ (uZ nf 1 (fromZ S (nf 1) v)) (3 + (uZ nf 1 (fromZ S (nf 1) v)) 1) (if 999 < (uZ nf 1 (fromZ S (nf 1) v)) (3 + (uZ nf 1 (fromZ S (nf 1) v)) 1) + ld ((uZ nf 1 (fromZ S (nf 1) v)) 1) then 999 else (uZ nf 1 (fromZ S (nf 1) v)) (3 + (uZ nf 1 (fromZ S (nf 1) v)) 1) + ld ((uZ nf 1 (fromZ S (nf 1) v)) 1))) 0 ((uZ nf 1 (fromZ S (nf 1) v)) 0 + 1)
theorem tg_step {S C Wy v : Int} {nf ld : Int → Int} (hB : (2 ≤ S ∧ S ≤ 6) ∧ (C = 1 ∧ Wy = S ∨ C = 2 ∧ Wy = 2 * S)) (hl : 0 ≤ nf 1 ∧ nf 1 < Wy) (hv : 0 ≤ v ∧ v < Wy) (hw : nf (3 + fromZ S (nf 1) v) ≤ 900) (hld : ∀ i : Int, 0 ≤ i → i < 12 → 1 ≤ ld i ∧ ld i ≤ 9) : tgF S v ld nf 1 = fromZ S (nf 1) v ∧ ∀ i : Int, 0 ≤ i → i < 12 → tgF S v ld nf (3 + i) = uZ (fun i => nf (3 + i)) (fromZ S (nf 1) v) (nf (3 + fromZ S (nf 1) v) + ld (fromZ S (nf 1) v)) i := by
  have hf := fromZ_rng hB hl hv
  have h1 := hld (fromZ S (nf 1) v) (by omega) (by omega)
  unfold tgF
  rw [uZ_same, uZ_ne nf (j := 3 + fromZ S (nf 1) v) _ (by omega), if_neg (by omega)]
  refine ⟨?_, fun i hi1 hi2 => ?_⟩
  · rw [uZ_ne _ _ (by omega), uZ_ne _ _ (by omega), uZ_same]
  · rw [uZ_ne _ _ (by omega)]
    by_cases e : i = fromZ S (nf 1) v
    · rw [e, uZ_same, uZ_same]
    · rw [uZ_ne _ _ (by omega), uZ_ne _ _ (by omega), uZ_ne _ _ e]
abbrev stA (S t home : Int) (ld wn : Int → Int) (k : Nat) (g : Int → Int) : Prop := g 1 = wyI S t home k ∧ ∀ i : Int, 0 ≤ i → i < 12 → g (3 + i) = lsW S t home ld wn k i
theorem stA_step {S C Wy t home : Int} {ld wn g : Int → Int} {k : Nat} (hB : (2 ≤ S ∧ S ≤ 6) ∧ (C = 1 ∧ Wy = S ∨ C = 2 ∧ Wy = 2 * S)) (ht : 0 ≤ t ∧ t < Wy) (hh : 0 ≤ home ∧ home < Wy) (hld : ∀ i : Int, 0 ≤ i → i < 12 → 1 ≤ ld i ∧ ld i ≤ 9) (hs : stA S t home ld wn k g) (hr : g (3 + fromZ S (g 1) t) ≤ 900) : stA S t home ld wn (k + 1) (tgF S t ld g) := by
  have hk := wyI_rng hB hh ht k
  have hk2 := wyI_rng hB hh ht (k + 1)
  have hq := tg_step hB (by rw [hs.1]; exact hk) ht hr hld
  have e : fromZ S (g 1) t = wyI S t home (k + 1) := by rw [hs.1]; rfl
  rw [e] at hq
  refine ⟨hq.1, fun i h1 h2 => ?_⟩
  rw [hq.2 i h1 h2]
  show uZ (fun i => g (3 + i)) (wyI S t home (k + 1)) _ i = uZ (lsW S t home ld wn k) (wyI S t home (k + 1)) _ i
  rw [hs.2 (wyI S t home (k + 1)) (by omega) (by omega)]
  unfold uZ
  split
  · rfl
  · exact hs.2 i h1 h2
theorem smZ_le {f : Int → Int} {b : Int} : ∀ k : Nat, (∀ i : Int, 0 ≤ i → i < k → f i ≤ b) → smZ f k ≤ b * k
  | 0, _ => by simp [smZ]
  | k + 1, h => by
    have h1 := smZ_le k (fun i h1 h2 => h i h1 (by omega))
    have h2 := h (k : Int) (by omega) (by omega)
    unfold smZ
    rw [Int.natCast_add, Int.mul_add]
    omega
theorem smZ_nn {f : Int → Int} : ∀ k : Nat, (∀ i : Int, 0 ≤ i → i < k → 0 ≤ f i) → 0 ≤ smZ f k
  | 0, _ => by simp [smZ]
  | k + 1, h => by
    have h1 := smZ_nn k (fun i h1 h2 => h i h1 (by omega))
    have h2 := h (k : Int) (by omega) (by omega)
    unfold smZ
    omega
theorem smZ_cong {f g : Int → Int} : ∀ k : Nat, (∀ i : Int, 0 ≤ i → i < k → f i = g i) → smZ f k = smZ g k
  | 0, _ => rfl
  | k + 1, h => by
    unfold smZ
    rw [smZ_cong k (fun i h1 h2 => h i h1 (by omega)), h k (by omega) (by omega)]
theorem smZ_upd {f : Int → Int} {w v : Int} : ∀ k : Nat, smZ (uZ f w v) k = smZ f k + (if 0 ≤ w ∧ w < k then v - f w else 0)
  | 0 => by
    rw [if_neg (by omega)]
    rfl
  | k + 1 => by
    unfold smZ
    rw [smZ_upd k]
    by_cases e : w = (k : Int)
    · subst e
      rw [uZ_same, if_neg (by omega), if_pos (by omega)]
      omega
    · rw [uZ_ne _ _ (by omega)]
      by_cases h : 0 ≤ w ∧ w < k
      · rw [if_pos h, if_pos (by omega)]
        omega
      · rw [if_neg h, if_neg (by omega)]
        omega
theorem ls_step {S C Wy t Li : Int} {ld g : Int → Int} (hB : (2 ≤ S ∧ S ≤ 6) ∧ (C = 1 ∧ Wy = S ∨ C = 2 ∧ Wy = 2 * S)) (ht : 0 ≤ t ∧ t < Wy) (hLi : 5 ≤ Li ∧ Li ≤ 99) (hld : ∀ i : Int, 0 ≤ i → i < 12 → 1 ≤ ld i ∧ ld i ≤ 9) (hg1 : 0 ≤ g 1 ∧ g 1 < Wy) (hgr : ∀ i : Int, 0 ≤ i → i < 12 → 0 ≤ g (3 + i) ∧ g (3 + i) ≤ 999) (hno : ¬ Li ≤ grZ (fun i => g (3 + i)) Wy.toNat) :
    g (3 + fromZ S (g 1) t) ≤ 98 ∧ smZ (fun i => g (3 + i)) Wy.toNat ≤ 1176 ∧ smZ (fun i => g (3 + i)) Wy.toNat + 1 ≤ smZ (fun i => tgF S t ld g (3 + i)) Wy.toNat ∧ (0 ≤ tgF S t ld g 1 ∧ tgF S t ld g 1 < Wy) ∧ (∀ i : Int, 0 ≤ i → i < 12 → 0 ≤ tgF S t ld g (3 + i) ∧ tgF S t ld g (3 + i) ≤ 999) := by
  have hf := fromZ_rng hB hg1 ht
  have hle : ∀ i : Int, 0 ≤ i → i < (Wy.toNat : Int) → g (3 + i) ≤ 98 := by
    intro i h1 h2
    have := grZ_ge (f := fun i => g (3 + i)) Wy.toNat i h1 (by omega)
    omega
  have h98 := hle _ hf.1 (by omega)
  have hq := tg_step hB hg1 ht (by omega) hld
  have hl := hld (fromZ S (g 1) t) (by omega) (by omega)
  have h0 := hgr (fromZ S (g 1) t) (by omega) (by omega)
  have h1 := smZ_le (f := fun i => g (3 + i)) (b := 98) Wy.toNat hle
  refine ⟨h98, by omega, ?_, by rw [hq.1]; exact hf, fun i h1 h2 => ?_⟩
  · rw [smZ_cong (g := uZ (fun i => g (3 + i)) (fromZ S (g 1) t) (g (3 + fromZ S (g 1) t) + ld (fromZ S (g 1) t))) Wy.toNat (fun i h1 h2 => hq.2 i h1 (by omega)), smZ_upd, if_pos (by omega)]
    omega
  · rw [hq.2 i h1 h2]
    have := hgr i h1 h2
    unfold uZ
    split <;> omega
def lsZ (S t home Li Wy : Int) (ld wn : Int → Int) : Int := ((fstN (fun k => decide (Li ≤ grZ (lsW S t home ld wn k) Wy.toNat)) 1300 : Nat) : Int)
theorem ls_fst {n : Int} {q : Nat → Prop} [DecidablePred q] (h0 : 0 ≤ n ∧ n ≤ 1200) (h1 : q n.toNat) (hno : ∀ j : Nat, (j : Int) < n → ¬ q j) : n = ((fstN (fun k => decide (q k)) 1300 : Nat) : Int) := by
  rw [fstN_eq (t := n.toNat) (by omega) (decide_eq_true h1) (fun j hj => decide_eq_false (hno j (by omega)))]
  omega
theorem fstG_le (p : Nat → Bool) : ∀ f k, fstG p f k ≤ k + f
  | 0, k => Nat.le_refl _
  | f + 1, k => by
    have h := fstG_le p f (k + 1)
    unfold fstG
    split <;> omega
theorem lsZ_rng (S t home Li Wy : Int) (ld wn : Int → Int) : 0 ≤ lsZ S t home Li Wy ld wn ∧ lsZ S t home Li Wy ld wn ≤ 1300 := by
  have h := fstG_le (fun k => decide (Li ≤ grZ (lsW S t home ld wn k) Wy.toNat)) 1300 0
  unfold lsZ fstN
  omega
theorem ite_cap {a : Int} (h : 0 ≤ a) : 0 ≤ (if 999 < a then 999 else a) ∧ (if 999 < a then 999 else a) ≤ 999 := by
  split <;> omega
def ltM (S home Li Wy : Int) (ld wn : Int → Int) : Nat → Int × Int
  | 0 => (0, -1)
  | t + 1 => if (ltM S home Li Wy ld wn t).2 < lsZ S (t : Int) home Li Wy ld wn then ((t : Int), lsZ S (t : Int) home Li Wy ld wn) else ltM S home Li Wy ld wn t

theorem pd_X9_same : yX9_same.cls = RX9 ∧ yX9_same.cls ≠ "java/lang/invoke/MethodHandle" ∧ yX9_same.cls ≠ "java/lang/invoke/VarHandle" ∧ (parseMethodDescriptor yX9_same.desc).map (fun d => d.parameters.length) = some 0 := by decide +kernel
abbrev rmX9_same : Room := { frames := 1, cells := 0, slots := 0, locals := 24 }
set_option maxHeartbeats 4000000 in
set_option maxRecDepth 100000 in
theorem c_X9_same (l : Launch) (G : CX) (hm0 : Nat) (S : Int) (C : Int) (Wy : Int) (Li : Int) (ml : Nat) (ms : Nat) (mw : Nat) (kn : Int) (mi : Nat) (mk : Nat) (hz : Int) (mh : Nat) (tr : Int64) (mt : Nat) (tn : Int) (cu : Int) (sa : Int) (to : Int) (nu : Int) (wr : Int) (it : Int) (sS : Int) (sC : Int) (sL : Int) (sW : Int) (mq : Nat) (mn : Nat) (mc : Nat) (mr : Nat) (mb : Nat) (hB : (2 ≤ S ∧ S ≤ 6) ∧ (C = 1 ∧ Wy = S ∨ C = 2 ∧ Wy = 2 * S)) : Met l yX9_same wsX9_same rmX9_same (rdP G [.ref hm0] [(hm0, .inr (9, [.int (zI S), .int (zI C), .int (zI Wy), .int (zI Li), .ref ml, .ref ms, .ref mw, .int (zI kn), .ref mi, .ref mk, .int (zI hz), .ref mh, .long tr, .ref mt, .int (zI tn), .int (zI cu), .int (zI sa), .int (zI to), .int (zI nu), .int (zI wr), .int (zI it), .int (zI sS), .int (zI sC), .int (zI sL), .int (zI sW), .ref mq, .ref mn, .ref mc, .ref mr, .ref mb]))]) (rdQ (zI (smO S Wy Wy.toNat))) 0 0 noA := by
  refine rd_ofW (cc := cX9_same) (maxL := 6) (ty := .int) (by decide) rfl (Nat.le_of_ble_eq_true rfl) rfl ?_
  intro p e s m below meth c Q A hx hb hml hown hts hK hret H locs hP hS ls hl
  have hown : s.vm.findClass RX9 = some m.cls := hown
  have hl : lv_has ls 6 [(0, .ref hm0)] := hl
  have f16 := hts (.fieldLink RX9 16 "QuarterTurnsModel" "ways" "I") (by decide +kernel)
  have i9 : ∀ w ∈ wsX90, w ∈ wsX9_same := fun w h => List.mem_cons_of_mem _ (List.mem_append_right _ h)
  refine lv_iconst (v := zI 0) hx hb dX9_same_0 rfl ?_
  refine lv_istore_n (lv' := [(1, .int (zI 0)), (0, .ref hm0)]) hx hb dX9_same_1 rfl hl (by decide) rfl (fun ls hl => ?_)
  refine lv_iconst (v := zI 0) hx hb dX9_same_2 rfl ?_
  refine lv_istore_n (lv' := [(2, .int (zI 0)), (1, .int (zI 0)), (0, .ref hm0)]) hx hb dX9_same_3 rfl hl (by decide) rfl (fun ls hl => ?_)
  have loop4 : ∀ (n_ : Nat) (t : Int) (n : Int) (H : Heap) (locs : List Loc) (ls : Array Slot), (0 ≤ t ∧ t ≤ Wy) → (n = smO S Wy t.toNat) → (Wy - t).toNat < n_ → kP G [(hm0, .inr (9, [.int (zI S), .int (zI C), .int (zI Wy), .int (zI Li), .ref ml, .ref ms, .ref mw, .int (zI kn), .ref mi, .ref mk, .int (zI hz), .ref mh, .long tr, .ref mt, .int (zI tn), .int (zI cu), .int (zI sa), .int (zI to), .int (zI nu), .int (zI wr), .int (zI it), .int (zI sS), .int (zI sC), .int (zI sL), .int (zI sW), .ref mq, .ref mn, .ref mc, .ref mr, .ref mb]))] H → va_S A s.heap H locs → lv_has ls 6 [(2, .int (zI t)), (1, .int (zI n)), (0, .ref hm0)] → W p l e rmX9_same s m ([.ref hm0] : List Value).toArray below meth c H locs 0 0 Q (F0 m 4 ls []) := by
    intro n_
    induction n_ with
    | zero =>
      intro t n H locs ls ht hn hm
      exact absurd hm (Nat.not_lt_zero _)
    | succ n_ ih4 =>
      intro t n H locs ls ht hn hm4 hP hS hl
      refine lv_iload_n hx hb dX9_same_4 rfl (lv_at hl 0 rfl) ?_
      refine lv_aload_n hx hb dX9_same_5 rfl (lv_at hl 2 rfl) ?_
      refine va_get (ci := 9) (v := .int (zI Wy)) (C := RX9) (T := TX9) (N := 30) hx hb hts i9 hown hK hP 0 rfl rfl 2 (by decide) f16 (fun _ h9 => h9) rfl dX9_same_6 ?_
      refine z_icmp_ge (tgt := 109) hx hb (by omega) dX9_same_9 (by decide) (fun c_1 => ?_) (fun c_1 => ?_)
      · refine lv_iload_n hx hb dX9_same_109 rfl (lv_at hl 1 rfl) ?_
        exact hret H locs ls 110 _ (congrArg zI (by rw [hn, show t = Wy by omega])) hS dX9_same_110
      · refine lv_iload_n hx hb dX9_same_12 rfl (lv_at hl 0 rfl) ?_
        refine lv_iconst (v := zI 1) hx hb dX9_same_13 rfl ?_
        refine z_iadd hx hb dX9_same_14 ?_
        refine lv_istore_n (lv' := [(3, .int (zI (t + 1))), (2, .int (zI t)), (1, .int (zI n)), (0, .ref hm0)]) hx hb dX9_same_15 rfl hl (by decide) rfl (fun ls hl => ?_)
        have loop16 : ∀ (n_ : Nat) (v : Int) (n2 : Int) (H : Heap) (locs : List Loc) (ls : Array Slot), (t + 1 ≤ v ∧ v ≤ Wy) → (n2 = smI S t Wy.toNat (v - (t + 1)).toNat (smO S Wy t.toNat)) → (Wy - v).toNat < n_ → kP G [(hm0, .inr (9, [.int (zI S), .int (zI C), .int (zI Wy), .int (zI Li), .ref ml, .ref ms, .ref mw, .int (zI kn), .ref mi, .ref mk, .int (zI hz), .ref mh, .long tr, .ref mt, .int (zI tn), .int (zI cu), .int (zI sa), .int (zI to), .int (zI nu), .int (zI wr), .int (zI it), .int (zI sS), .int (zI sC), .int (zI sL), .int (zI sW), .ref mq, .ref mn, .ref mc, .ref mr, .ref mb]))] H → va_S A s.heap H locs → lv_has ls 6 [(3, .int (zI v)), (2, .int (zI t)), (1, .int (zI n2)), (0, .ref hm0)] → W p l e rmX9_same s m ([.ref hm0] : List Value).toArray below meth c H locs 0 0 Q (F0 m 16 ls []) := by
          intro n_
          induction n_ with
          | zero =>
            intro v n2 H locs ls hv hn2 hm
            exact absurd hm (Nat.not_lt_zero _)
          | succ n_ ih16 =>
            intro v n2 H locs ls hv hn2 hm16 hP hS hl
            refine lv_iload_n hx hb dX9_same_16 rfl (lv_at hl 0 rfl) ?_
            refine lv_aload_n hx hb dX9_same_17 rfl (lv_at hl 3 rfl) ?_
            refine va_get (ci := 9) (v := .int (zI Wy)) (C := RX9) (T := TX9) (N := 30) hx hb hts i9 hown hK hP 0 rfl rfl 2 (by decide) f16 (fun _ h9 => h9) rfl dX9_same_18 ?_
            refine z_icmp_ge (tgt := 103) hx hb (by omega) dX9_same_21 (by decide) (fun c_2 => ?_) (fun c_2 => ?_)
            · refine lv_iinc (v := zI (t + 1)) (lv' := [(2, .int (zI (t + 1))), (3, .int (zI v)), (1, .int (zI n2)), (0, .ref hm0)]) hx hb dX9_same_103 hl (k := 1) rfl (zI_add _ _) (by decide) rfl (fun ls hl => ?_)
              refine lv_goto (tgt := 4) hx hb dX9_same_106 (by decide) ?_
              exact ih4 (t + 1) n2 H locs ls (by omega) (by rw [tn1 ht.1, smO, Int.toNat_of_nonneg ht.1, hn2, show (v - (t + 1)).toNat = (Wy - (t + 1)).toNat by omega]) (by omega) hP hS (lv_sub hl [0, 2, 3] rfl)
            · refine lv_iconst (v := zI 1) hx hb dX9_same_24 rfl ?_
              refine lv_istore (lv' := [(4, .int (zI 1)), (3, .int (zI v)), (2, .int (zI t)), (1, .int (zI n2)), (0, .ref hm0)]) hx hb dX9_same_25 hl (by decide) rfl (fun ls hl => ?_)
              refine lv_iconst (v := zI 0) hx hb dX9_same_27 rfl ?_
              refine lv_istore (lv' := [(5, .int (zI 0)), (4, .int (zI 1)), (3, .int (zI v)), (2, .int (zI t)), (1, .int (zI n2)), (0, .ref hm0)]) hx hb dX9_same_28 hl (by decide) rfl (fun ls hl => ?_)
              have loop30 : ∀ (n_ : Nat) (w : Int) (sm : Int) (H : Heap) (locs : List Loc) (ls : Array Slot), (0 ≤ w ∧ w ≤ Wy) → ((sm = 1 ∧ smS S t v w.toNat = true) ∨ (sm = 0 ∧ ¬ smS S t v w.toNat = true)) → (Wy - w).toNat < n_ → kP G [(hm0, .inr (9, [.int (zI S), .int (zI C), .int (zI Wy), .int (zI Li), .ref ml, .ref ms, .ref mw, .int (zI kn), .ref mi, .ref mk, .int (zI hz), .ref mh, .long tr, .ref mt, .int (zI tn), .int (zI cu), .int (zI sa), .int (zI to), .int (zI nu), .int (zI wr), .int (zI it), .int (zI sS), .int (zI sC), .int (zI sL), .int (zI sW), .ref mq, .ref mn, .ref mc, .ref mr, .ref mb]))] H → va_S A s.heap H locs → lv_has ls 6 [(5, .int (zI w)), (4, .int (zI sm)), (3, .int (zI v)), (2, .int (zI t)), (1, .int (zI n2)), (0, .ref hm0)] → W p l e rmX9_same s m ([.ref hm0] : List Value).toArray below meth c H locs 0 0 Q (F0 m 30 ls []) := by
                intro n_
                induction n_ with
                | zero =>
                  intro w sm H locs ls hw hsm hm
                  exact absurd hm (Nat.not_lt_zero _)
                | succ n_ ih30 =>
                  intro w sm H locs ls hw hsm hm30 hP hS hl
                  refine lv_iload hx hb dX9_same_30 (lv_at hl 0 rfl) ?_
                  refine lv_aload_n hx hb dX9_same_32 rfl (lv_at hl 5 rfl) ?_
                  refine va_get (ci := 9) (v := .int (zI Wy)) (C := RX9) (T := TX9) (N := 30) hx hb hts i9 hown hK hP 0 rfl rfl 2 (by decide) f16 (fun _ h9 => h9) rfl dX9_same_33 ?_
                  refine z_icmp_ge (tgt := 84) hx hb (by omega) dX9_same_36 (by decide) (fun c_3 => ?_) (fun c_3 => ?_)
                  · refine lv_iload_n hx hb dX9_same_84 rfl (lv_at hl 4 rfl) ?_
                    refine lv_iload hx hb dX9_same_85 (lv_at hl 1 rfl) ?_
                    refine z_if_eq (tgt := 94) hx hb (by omega) dX9_same_87 (by decide) (fun c_4 => ?_) (fun c_4 => ?_)
                    · refine lv_iconst (v := zI 0) hx hb dX9_same_94 rfl ?_
                      refine z_iadd hx hb dX9_same_95 ?_
                      refine lv_istore_n (lv' := [(1, .int (zI (n2 + 0))), (5, .int (zI w)), (4, .int (zI sm)), (3, .int (zI v)), (2, .int (zI t)), (0, .ref hm0)]) hx hb dX9_same_96 rfl hl (by decide) rfl (fun ls hl => ?_)
                      refine lv_iinc (v := zI (v + 1)) (lv' := [(3, .int (zI (v + 1))), (1, .int (zI (n2 + 0))), (5, .int (zI w)), (4, .int (zI sm)), (2, .int (zI t)), (0, .ref hm0)]) hx hb dX9_same_97 hl (k := 3) rfl (zI_add _ _) (by decide) rfl (fun ls hl => ?_)
                      refine lv_goto (tgt := 16) hx hb dX9_same_100 (by decide) ?_
                      exact ih16 (v + 1) (n2 + 0) H locs ls (by omega) (by rw [show (v + 1 - (t + 1)).toNat = (v - (t + 1)).toNat + 1 by omega, smI, show t + 1 + (((v - (t + 1)).toNat : Nat) : Int) = v by omega, ← hn2]; rcases hsm with ⟨h8, h9⟩ | ⟨h8, h9⟩ <;> first | (exfalso; omega) | (rw [show Wy.toNat = w.toNat by omega, if_pos h9]; done) | (rw [show Wy.toNat = w.toNat by omega, if_neg h9]; done)) (by omega) hP hS (lv_sub hl [0, 4, 1, 5] rfl)
                    · refine lv_iconst (v := zI 1) hx hb dX9_same_90 rfl ?_
                      refine lv_goto (tgt := 95) hx hb dX9_same_91 (by decide) ?_
                      refine z_iadd hx hb dX9_same_95 ?_
                      refine lv_istore_n (lv' := [(1, .int (zI (n2 + 1))), (5, .int (zI w)), (4, .int (zI sm)), (3, .int (zI v)), (2, .int (zI t)), (0, .ref hm0)]) hx hb dX9_same_96 rfl hl (by decide) rfl (fun ls hl => ?_)
                      refine lv_iinc (v := zI (v + 1)) (lv' := [(3, .int (zI (v + 1))), (1, .int (zI (n2 + 1))), (5, .int (zI w)), (4, .int (zI sm)), (2, .int (zI t)), (0, .ref hm0)]) hx hb dX9_same_97 hl (k := 3) rfl (zI_add _ _) (by decide) rfl (fun ls hl => ?_)
                      refine lv_goto (tgt := 16) hx hb dX9_same_100 (by decide) ?_
                      exact ih16 (v + 1) (n2 + 1) H locs ls (by omega) (by rw [show (v + 1 - (t + 1)).toNat = (v - (t + 1)).toNat + 1 by omega, smI, show t + 1 + (((v - (t + 1)).toNat : Nat) : Int) = v by omega, ← hn2]; rcases hsm with ⟨h8, h9⟩ | ⟨h8, h9⟩ <;> first | (exfalso; omega) | (rw [show Wy.toNat = w.toNat by omega, if_pos h9]; done) | (rw [show Wy.toNat = w.toNat by omega, if_neg h9]; done)) (by omega) hP hS (lv_sub hl [0, 4, 1, 5] rfl)
                  · refine lv_iload hx hb dX9_same_39 (lv_at hl 1 rfl) ?_
                    refine z_if_eq (tgt := 75) hx hb (by omega) dX9_same_41 (by decide) (fun c_5 => ?_) (fun c_5 => ?_)
                    · refine lv_iconst (v := zI 0) hx hb dX9_same_75 rfl ?_
                      refine lv_istore (lv' := [(4, .int (zI 0)), (5, .int (zI w)), (3, .int (zI v)), (2, .int (zI t)), (1, .int (zI n2)), (0, .ref hm0)]) hx hb dX9_same_76 hl (by decide) rfl (fun ls hl => ?_)
                      refine lv_iinc (v := zI (w + 1)) (lv' := [(5, .int (zI (w + 1))), (4, .int (zI 0)), (3, .int (zI v)), (2, .int (zI t)), (1, .int (zI n2)), (0, .ref hm0)]) hx hb dX9_same_78 hl (k := 1) rfl (zI_add _ _) (by decide) rfl (fun ls hl => ?_)
                      refine lv_goto (tgt := 30) hx hb dX9_same_81 (by decide) ?_
                      exact ih30 (w + 1) 0 H locs ls (by omega) (by rw [tn1 hw.1, smS, Int.toNat_of_nonneg hw.1]; exact and_step hsm (by omega)) (by omega) hP hS (lv_sub hl [0, 1, 2, 3, 4, 5] rfl)
                    · refine lv_aload_n hx hb dX9_same_44 rfl (lv_at hl 5 rfl) ?_
                      refine lv_aload_n hx hb dX9_same_45 rfl (lv_at hl 5 rfl) ?_
                      refine lv_iload hx hb dX9_same_46 (lv_at hl 0 rfl) ?_
                      refine lv_iload_n hx hb dX9_same_48 rfl (lv_at hl 3 rfl) ?_
                      refine z_cV (As := [.int (zI w), .int (zI t)]) (rest := [.ref hm0]) ⟨hx, hb, hml, hown, hts⟩ (c_X9_from l G hm0 S C Wy Li ml ms mw kn mi mk hz mh tr mt tn cu sa to nu wr it sS sC sL sW mq mn mc mr mb w t (by first | assumption | omega) (by first | assumption | omega) (by first | assumption | omega)) (cwV 2 hts gX9_same_X9_from rfl rfl rfl pd_X9_from ⟨(Nat.le_of_ble_eq_true rfl), (Nat.le_of_ble_eq_true rfl)⟩) hK hP hS [0] rfl rfl rfl rfl rfl hl.1 rfl (Nat.le_of_ble_eq_true rfl) dX9_same_49 ⟨Nat.zero_le _, Nat.zero_le _⟩ (fun H locs hP hS => ?_)
                      have hq_6 := fromZ_rng (C := C) (Wy := Wy) (w := w) (t := t) ((by first | assumption | omega)) ((by first | assumption | omega)) ((by first | assumption | omega))
                      refine lv_iload_n hx hb dX9_same_52 rfl (lv_at hl 2 rfl) ?_
                      refine z_cV (As := [.int (zI (fromZ S w t)), .int (zI v)]) (rest := []) ⟨hx, hb, hml, hown, hts⟩ (c_X9_from l G hm0 S C Wy Li ml ms mw kn mi mk hz mh tr mt tn cu sa to nu wr it sS sC sL sW mq mn mc mr mb (fromZ S w t) v (by first | assumption | omega) (by first | assumption | omega) (by first | assumption | omega)) (cwV 2 hts gX9_same_X9_from rfl rfl rfl pd_X9_from ⟨(Nat.le_of_ble_eq_true rfl), (Nat.le_of_ble_eq_true rfl)⟩) hK hP hS [0] rfl rfl rfl rfl rfl hl.1 rfl (Nat.le_of_ble_eq_true rfl) dX9_same_53 ⟨Nat.zero_le _, Nat.zero_le _⟩ (fun H locs hP hS => ?_)
                      have hq_7 := fromZ_rng (C := C) (Wy := Wy) (w := (fromZ S w t)) (t := v) ((by first | assumption | omega)) ((by first | assumption | omega)) ((by first | assumption | omega))
                      refine lv_aload_n hx hb dX9_same_56 rfl (lv_at hl 5 rfl) ?_
                      refine lv_aload_n hx hb dX9_same_57 rfl (lv_at hl 5 rfl) ?_
                      refine lv_iload hx hb dX9_same_58 (lv_at hl 0 rfl) ?_
                      refine lv_iload_n hx hb dX9_same_60 rfl (lv_at hl 2 rfl) ?_
                      refine z_cV (As := [.int (zI w), .int (zI v)]) (rest := [.ref hm0, .int (zI (fromZ S (fromZ S w t) v))]) ⟨hx, hb, hml, hown, hts⟩ (c_X9_from l G hm0 S C Wy Li ml ms mw kn mi mk hz mh tr mt tn cu sa to nu wr it sS sC sL sW mq mn mc mr mb w v (by first | assumption | omega) (by first | assumption | omega) (by first | assumption | omega)) (cwV 2 hts gX9_same_X9_from rfl rfl rfl pd_X9_from ⟨(Nat.le_of_ble_eq_true rfl), (Nat.le_of_ble_eq_true rfl)⟩) hK hP hS [0] rfl rfl rfl rfl rfl hl.1 rfl (Nat.le_of_ble_eq_true rfl) dX9_same_61 ⟨Nat.zero_le _, Nat.zero_le _⟩ (fun H locs hP hS => ?_)
                      have hq_8 := fromZ_rng (C := C) (Wy := Wy) (w := w) (t := v) ((by first | assumption | omega)) ((by first | assumption | omega)) ((by first | assumption | omega))
                      refine lv_iload_n hx hb dX9_same_64 rfl (lv_at hl 3 rfl) ?_
                      refine z_cV (As := [.int (zI (fromZ S w v)), .int (zI t)]) (rest := [.int (zI (fromZ S (fromZ S w t) v))]) ⟨hx, hb, hml, hown, hts⟩ (c_X9_from l G hm0 S C Wy Li ml ms mw kn mi mk hz mh tr mt tn cu sa to nu wr it sS sC sL sW mq mn mc mr mb (fromZ S w v) t (by first | assumption | omega) (by first | assumption | omega) (by first | assumption | omega)) (cwV 2 hts gX9_same_X9_from rfl rfl rfl pd_X9_from ⟨(Nat.le_of_ble_eq_true rfl), (Nat.le_of_ble_eq_true rfl)⟩) hK hP hS [0] rfl rfl rfl rfl rfl hl.1 rfl (Nat.le_of_ble_eq_true rfl) dX9_same_65 ⟨Nat.zero_le _, Nat.zero_le _⟩ (fun H locs hP hS => ?_)
                      have hq_9 := fromZ_rng (C := C) (Wy := Wy) (w := (fromZ S w v)) (t := t) ((by first | assumption | omega)) ((by first | assumption | omega)) ((by first | assumption | omega))
                      refine z_icmp_ne (tgt := 75) hx hb (by omega) dX9_same_68 (by decide) (fun c_10 => ?_) (fun c_10 => ?_)
                      · refine lv_iconst (v := zI 0) hx hb dX9_same_75 rfl ?_
                        refine lv_istore (lv' := [(4, .int (zI 0)), (5, .int (zI w)), (3, .int (zI v)), (2, .int (zI t)), (1, .int (zI n2)), (0, .ref hm0)]) hx hb dX9_same_76 hl (by decide) rfl (fun ls hl => ?_)
                        refine lv_iinc (v := zI (w + 1)) (lv' := [(5, .int (zI (w + 1))), (4, .int (zI 0)), (3, .int (zI v)), (2, .int (zI t)), (1, .int (zI n2)), (0, .ref hm0)]) hx hb dX9_same_78 hl (k := 1) rfl (zI_add _ _) (by decide) rfl (fun ls hl => ?_)
                        refine lv_goto (tgt := 30) hx hb dX9_same_81 (by decide) ?_
                        exact ih30 (w + 1) 0 H locs ls (by omega) (by rw [tn1 hw.1, smS, Int.toNat_of_nonneg hw.1]; exact and_step hsm (by omega)) (by omega) hP hS (lv_sub hl [0, 1, 2, 3, 4, 5] rfl)
                      · refine lv_iconst (v := zI 1) hx hb dX9_same_71 rfl ?_
                        refine lv_goto (tgt := 76) hx hb dX9_same_72 (by decide) ?_
                        refine lv_istore (lv' := [(4, .int (zI 1)), (5, .int (zI w)), (3, .int (zI v)), (2, .int (zI t)), (1, .int (zI n2)), (0, .ref hm0)]) hx hb dX9_same_76 hl (by decide) rfl (fun ls hl => ?_)
                        refine lv_iinc (v := zI (w + 1)) (lv' := [(5, .int (zI (w + 1))), (4, .int (zI 1)), (3, .int (zI v)), (2, .int (zI t)), (1, .int (zI n2)), (0, .ref hm0)]) hx hb dX9_same_78 hl (k := 1) rfl (zI_add _ _) (by decide) rfl (fun ls hl => ?_)
                        refine lv_goto (tgt := 30) hx hb dX9_same_81 (by decide) ?_
                        exact ih30 (w + 1) 1 H locs ls (by omega) (by rw [tn1 hw.1, smS, Int.toNat_of_nonneg hw.1]; exact and_step hsm (by omega)) (by omega) hP hS (lv_sub hl [0, 1, 2, 3, 4, 5] rfl)
              exact loop30 _ 0 1 H locs ls (by omega) (by exact Or.inl ⟨rfl, rfl⟩) (Nat.lt_succ_self _) hP hS (lv_sub hl [0, 1, 2, 3, 4, 5] rfl)
        exact loop16 _ (t + 1) n H locs ls (by omega) (by rw [show (t + 1 - (t + 1)).toNat = 0 by omega]; exact hn) (Nat.lt_succ_self _) hP hS (lv_sub hl [0, 1, 2, 3] rfl)
  exact loop4 _ 0 0 H locs ls (by omega) rfl (Nat.lt_succ_self _) hP hS (lv_sub hl [0, 1, 2] rfl)
theorem pd_X9_reach : yX9_reach.cls = RX9 ∧ yX9_reach.cls ≠ "java/lang/invoke/MethodHandle" ∧ yX9_reach.cls ≠ "java/lang/invoke/VarHandle" ∧ (parseMethodDescriptor yX9_reach.desc).map (fun d => d.parameters.length) = some 1 := by decide +kernel
abbrev rmX9_reach : Room := { frames := 2, cells := 0, slots := 0, locals := 43 }
set_option maxHeartbeats 4000000 in
set_option maxRecDepth 100000 in
theorem c_X9_reach (l : Launch) (G : CX) (hm0 : Nat) (S : Int) (C : Int) (Wy : Int) (Li : Int) (ml : Nat) (ms : Nat) (mw : Nat) (kn : Int) (mi : Nat) (mk : Nat) (hz : Int) (mh : Nat) (tr : Int64) (mt : Nat) (tn : Int) (cu : Int) (sa : Int) (to : Int) (nu : Int) (wr : Int) (it : Int) (sS : Int) (sC : Int) (sL : Int) (sW : Int) (mq : Nat) (mn : Nat) (mc : Nat) (mr : Nat) (mb : Nat) (sf : Int → Int) (set : Int) (hB : (2 ≤ S ∧ S ≤ 6) ∧ (C = 1 ∧ Wy = S ∨ C = 2 ∧ Wy = 2 * S)) (hl1 : 0 ≤ sf 1 ∧ sf 1 < Wy) (hr_set : -2147483648 ≤ set ∧ set < 2147483648) : Met l yX9_reach wsX9_reach rmX9_reach (rdP G [.ref hm0, .int (zI set)] [(hm0, .inr (9, [.int (zI S), .int (zI C), .int (zI Wy), .int (zI Li), .ref ml, .ref ms, .ref mw, .int (zI kn), .ref mi, .ref mk, .int (zI hz), .ref mh, .long tr, .ref mt, .int (zI tn), .int (zI cu), .int (zI sa), .int (zI to), .int (zI nu), .int (zI wr), .int (zI it), .int (zI sS), .int (zI sC), .int (zI sL), .int (zI sW), .ref mq, .ref mn, .ref mc, .ref mr, .ref mb])), (ms, .inl (G.2.1, 15, .inl (aZ sf)))]) (rdQ (zI (if 0 ≤ set ∧ set ≤ ((fullN Wy : Nat) : Int) then ((rcK S Wy.toNat set.toNat (sf 1) Wy.toNat : Nat) : Int) else -1))) 0 0 noA := by
  refine rd_ofW (cc := cX9_reach) (maxL := 6) (ty := .int) (by decide) rfl (Nat.le_of_ble_eq_true rfl) rfl ?_
  intro p e s m below meth c Q A hx hb hml hown hts hK hret H locs hP hS ls hl
  have hown : s.vm.findClass RX9 = some m.cls := hown
  have hl : lv_has ls 6 [(0, .ref hm0), (1, .int (zI set))] := hl
  have f26 := hts (.fieldLink RX9 26 "QuarterTurnsModel" "st" "[I") (by decide +kernel)
  have i9 : ∀ w ∈ wsX90, w ∈ wsX9_reach := fun w h => List.mem_cons_of_mem _ (List.mem_append_right _ h)
  have f16 := hts (.fieldLink RX9 16 "QuarterTurnsModel" "ways" "I") (by decide +kernel)
  refine lv_aload_n hx hb dX9_reach_0 rfl (lv_at hl 0 rfl) ?_
  refine lv_iload_n hx hb dX9_reach_1 rfl (lv_at hl 1 rfl) ?_
  refine z_cV (As := [.int (zI set)]) (rest := []) ⟨hx, hb, hml, hown, hts⟩ (c_X9_isSet l G hm0 S C Wy Li ml ms mw kn mi mk hz mh tr mt tn cu sa to nu wr it sS sC sL sW mq mn mc mr mb set (by first | assumption | omega) (by first | assumption | omega)) (cwV 1 hts gX9_reach_X9_isSet rfl rfl rfl pd_X9_isSet ⟨(Nat.le_of_ble_eq_true rfl), (Nat.le_of_ble_eq_true rfl)⟩) hK hP hS [0] rfl rfl rfl rfl rfl hl.1 rfl (Nat.le_of_ble_eq_true rfl) dX9_reach_2 ⟨Nat.zero_le _, Nat.zero_le _⟩ (fun H locs hP hS => ?_)
  refine z_ifne_b (tgt := 10) hx hb dX9_reach_5 (by decide) (fun c_1 => ?_) (fun c_1 => ?_)
  · have hfl := fullN_lt (W := Wy) (by omega)
    refine lv_iconst (v := zI 1) hx hb dX9_reach_10 rfl ?_
    refine lv_aload_n hx hb dX9_reach_11 rfl (lv_at hl 0 rfl) ?_
    refine va_get (ci := 9) (v := .ref ms) (C := RX9) (T := TX9) (N := 30) hx hb hts i9 hown hK hP 0 rfl rfl 5 (by decide) f26 (fun _ h9 => h9) rfl dX9_reach_12 ?_
    refine lv_iconst (v := zI 1) hx hb dX9_reach_15 rfl ?_
    refine z_iald (n := 15) (f := sf) hx hb hK hP 1 rfl (by omega) dX9_reach_16 ?_
    refine z_shl1 hx hb (by omega) dX9_reach_17 ?_
    refine lv_istore_n (lv' := [(2, .int (zI ((2 ^ (sf 1).toNat : Nat) : Int))), (0, .ref hm0), (1, .int (zI set))]) hx hb dX9_reach_18 rfl hl (by decide) rfl (fun ls hl => ?_)
    refine lv_iconst (v := zI 0) hx hb dX9_reach_19 rfl ?_
    refine lv_istore_n (lv' := [(3, .int (zI 0)), (2, .int (zI ((2 ^ (sf 1).toNat : Nat) : Int))), (0, .ref hm0), (1, .int (zI set))]) hx hb dX9_reach_20 rfl hl (by decide) rfl (fun ls hl => ?_)
    have loop21 : ∀ (n_ : Nat) (k : Int) (to1 : Nat) (H : Heap) (locs : List Loc) (ls : Array Slot), (0 ≤ k ∧ k ≤ Wy) → (to1 = rcK S Wy.toNat set.toNat (sf 1) k.toNat) → (to1 < 4096) → (Wy - k).toNat < n_ → kP G [(hm0, .inr (9, [.int (zI S), .int (zI C), .int (zI Wy), .int (zI Li), .ref ml, .ref ms, .ref mw, .int (zI kn), .ref mi, .ref mk, .int (zI hz), .ref mh, .long tr, .ref mt, .int (zI tn), .int (zI cu), .int (zI sa), .int (zI to), .int (zI nu), .int (zI wr), .int (zI it), .int (zI sS), .int (zI sC), .int (zI sL), .int (zI sW), .ref mq, .ref mn, .ref mc, .ref mr, .ref mb])), (ms, .inl (G.2.1, 15, .inl (aZ sf)))] H → va_S A s.heap H locs → lv_has ls 6 [(3, .int (zI k)), (2, .int (zI ((to1 : Nat) : Int))), (0, .ref hm0), (1, .int (zI set))] → W p l e rmX9_reach s m ([.ref hm0, .int (zI set)] : List Value).toArray below meth c H locs 0 0 Q (F0 m 21 ls []) := by
      intro n_
      induction n_ with
      | zero =>
        intro k to1 H locs ls hk hto1 hl1b hm
        exact absurd hm (Nat.not_lt_zero _)
      | succ n_ ih21 =>
        intro k to1 H locs ls hk hto1 hl1b hm21 hP hS hl
        refine lv_iload_n hx hb dX9_reach_21 rfl (lv_at hl 0 rfl) ?_
        refine lv_aload_n hx hb dX9_reach_22 rfl (lv_at hl 2 rfl) ?_
        refine va_get (ci := 9) (v := .int (zI Wy)) (C := RX9) (T := TX9) (N := 30) hx hb hts i9 hown hK hP 0 rfl rfl 2 (by decide) f16 (fun _ h9 => h9) rfl dX9_reach_23 ?_
        refine z_icmp_ge (tgt := 106) hx hb (by omega) dX9_reach_26 (by decide) (fun c_2 => ?_) (fun c_2 => ?_)
        · refine lv_iload_n hx hb dX9_reach_106 rfl (lv_at hl 1 rfl) ?_
          exact hret H locs ls 107 _ (congrArg zI (by rw [if_pos (by omega), hto1, show k = Wy by omega])) hS dX9_reach_107
        · refine lv_iconst (v := zI 0) hx hb dX9_reach_29 rfl ?_
          refine lv_istore (lv' := [(4, .int (zI 0)), (3, .int (zI k)), (2, .int (zI ((to1 : Nat) : Int))), (0, .ref hm0), (1, .int (zI set))]) hx hb dX9_reach_30 hl (by decide) rfl (fun ls hl => ?_)
          have loop32 : ∀ (n_ : Nat) (w : Int) (to2 : Nat) (H : Heap) (locs : List Loc) (ls : Array Slot), (0 ≤ w ∧ w ≤ Wy) → (to2 = rcW S Wy.toNat set.toNat w.toNat to1) → (to2 < 4096) → (Wy - w).toNat < n_ → kP G [(hm0, .inr (9, [.int (zI S), .int (zI C), .int (zI Wy), .int (zI Li), .ref ml, .ref ms, .ref mw, .int (zI kn), .ref mi, .ref mk, .int (zI hz), .ref mh, .long tr, .ref mt, .int (zI tn), .int (zI cu), .int (zI sa), .int (zI to), .int (zI nu), .int (zI wr), .int (zI it), .int (zI sS), .int (zI sC), .int (zI sL), .int (zI sW), .ref mq, .ref mn, .ref mc, .ref mr, .ref mb])), (ms, .inl (G.2.1, 15, .inl (aZ sf)))] H → va_S A s.heap H locs → lv_has ls 6 [(4, .int (zI w)), (3, .int (zI k)), (2, .int (zI ((to2 : Nat) : Int))), (0, .ref hm0), (1, .int (zI set))] → W p l e rmX9_reach s m ([.ref hm0, .int (zI set)] : List Value).toArray below meth c H locs 0 0 Q (F0 m 32 ls []) := by
            intro n_
            induction n_ with
            | zero =>
              intro w to2 H locs ls hw hto2 hl2b hm
              exact absurd hm (Nat.not_lt_zero _)
            | succ n_ ih32 =>
              intro w to2 H locs ls hw hto2 hl2b hm32 hP hS hl
              refine lv_iload hx hb dX9_reach_32 (lv_at hl 0 rfl) ?_
              refine lv_aload_n hx hb dX9_reach_34 rfl (lv_at hl 3 rfl) ?_
              refine va_get (ci := 9) (v := .int (zI Wy)) (C := RX9) (T := TX9) (N := 30) hx hb hts i9 hown hK hP 0 rfl rfl 2 (by decide) f16 (fun _ h9 => h9) rfl dX9_reach_35 ?_
              refine z_icmp_ge (tgt := 100) hx hb (by omega) dX9_reach_38 (by decide) (fun c_3 => ?_) (fun c_3 => ?_)
              · refine lv_iinc (v := zI (k + 1)) (lv' := [(3, .int (zI (k + 1))), (4, .int (zI w)), (2, .int (zI ((to2 : Nat) : Int))), (0, .ref hm0), (1, .int (zI set))]) hx hb dX9_reach_100 hl (k := 1) rfl (zI_add _ _) (by decide) rfl (fun ls hl => ?_)
                refine lv_goto (tgt := 21) hx hb dX9_reach_103 (by decide) ?_
                exact ih21 (k + 1) to2 H locs ls (by omega) (by rw [tn1 hk.1, rcK, ← hto1, hto2, show Wy.toNat = w.toNat by omega]) (by assumption) (by omega) hP hS (lv_sub hl [0, 2, 3, 4] rfl)
              · refine lv_iconst (v := zI 0) hx hb dX9_reach_41 rfl ?_
                refine lv_istore (lv' := [(5, .int (zI 0)), (4, .int (zI w)), (3, .int (zI k)), (2, .int (zI ((to2 : Nat) : Int))), (0, .ref hm0), (1, .int (zI set))]) hx hb dX9_reach_42 hl (by decide) rfl (fun ls hl => ?_)
                have loop44 : ∀ (n_ : Nat) (t : Int) (to3 : Nat) (H : Heap) (locs : List Loc) (ls : Array Slot), (0 ≤ t ∧ t ≤ Wy) → (to3 = rcT S set.toNat w t.toNat to2) → (to3 < 4096) → (Wy - t).toNat < n_ → kP G [(hm0, .inr (9, [.int (zI S), .int (zI C), .int (zI Wy), .int (zI Li), .ref ml, .ref ms, .ref mw, .int (zI kn), .ref mi, .ref mk, .int (zI hz), .ref mh, .long tr, .ref mt, .int (zI tn), .int (zI cu), .int (zI sa), .int (zI to), .int (zI nu), .int (zI wr), .int (zI it), .int (zI sS), .int (zI sC), .int (zI sL), .int (zI sW), .ref mq, .ref mn, .ref mc, .ref mr, .ref mb])), (ms, .inl (G.2.1, 15, .inl (aZ sf)))] H → va_S A s.heap H locs → lv_has ls 6 [(5, .int (zI t)), (4, .int (zI w)), (3, .int (zI k)), (2, .int (zI ((to3 : Nat) : Int))), (0, .ref hm0), (1, .int (zI set))] → W p l e rmX9_reach s m ([.ref hm0, .int (zI set)] : List Value).toArray below meth c H locs 0 0 Q (F0 m 44 ls []) := by
                  intro n_
                  induction n_ with
                  | zero =>
                    intro t to3 H locs ls ht hto3 hl3b hm
                    exact absurd hm (Nat.not_lt_zero _)
                  | succ n_ ih44 =>
                    intro t to3 H locs ls ht hto3 hl3b hm44 hP hS hl
                    refine lv_iload hx hb dX9_reach_44 (lv_at hl 0 rfl) ?_
                    refine lv_aload_n hx hb dX9_reach_46 rfl (lv_at hl 4 rfl) ?_
                    refine va_get (ci := 9) (v := .int (zI Wy)) (C := RX9) (T := TX9) (N := 30) hx hb hts i9 hown hK hP 0 rfl rfl 2 (by decide) f16 (fun _ h9 => h9) rfl dX9_reach_47 ?_
                    refine z_icmp_ge (tgt := 94) hx hb (by omega) dX9_reach_50 (by decide) (fun c_4 => ?_) (fun c_4 => ?_)
                    · refine lv_iinc (v := zI (w + 1)) (lv' := [(4, .int (zI (w + 1))), (5, .int (zI t)), (3, .int (zI k)), (2, .int (zI ((to3 : Nat) : Int))), (0, .ref hm0), (1, .int (zI set))]) hx hb dX9_reach_94 hl (k := 1) rfl (zI_add _ _) (by decide) rfl (fun ls hl => ?_)
                      refine lv_goto (tgt := 32) hx hb dX9_reach_97 (by decide) ?_
                      exact ih32 (w + 1) to3 H locs ls (by omega) (by rw [tn1 hw.1, rcW, ← hto2, Int.toNat_of_nonneg hw.1, hto3]; first | (rw [show t.toNat = Wy.toNat by omega]; done) | (rw [show Wy.toNat = t.toNat + (Wy.toNat - t.toNat) by omega]; exact (rcT_stop (by rw [← hto3]; assumption) _).symm)) (by assumption) (by omega) hP hS (lv_sub hl [0, 2, 3, 4, 5] rfl)
                    · refine lv_iload_n hx hb dX9_reach_53 rfl (lv_at hl 3 rfl) ?_
                      refine lv_iload hx hb dX9_reach_54 (lv_at hl 1 rfl) ?_
                      refine z_cS (As := [.int (zI ((to3 : Nat) : Int)), .int (zI w)]) (rest := []) ⟨hx, hb, hml, hown, hts⟩ (c_X9_has l G ((to3 : Nat) : Int) w (by first | assumption | omega) (by first | assumption | omega)) (va_cwS 2 hts gX9_reach_X9_has rfl rfl rfl pd_X9_has.2 ⟨(Nat.le_of_ble_eq_true rfl), (Nat.le_of_ble_eq_true rfl)⟩) hK hP hS [] rfl rfl hl.1 rfl (Nat.le_of_ble_eq_true rfl) dX9_reach_56 ⟨Nat.zero_le _, Nat.zero_le _⟩ (fun H locs hP hS => ?_)
                      refine z_ifeq_b (tgt := 94) hx hb dX9_reach_59 (by decide) (fun c_5 => ?_) (fun c_5 => ?_)
                      · refine lv_iinc (v := zI (w + 1)) (lv' := [(4, .int (zI (w + 1))), (5, .int (zI t)), (3, .int (zI k)), (2, .int (zI ((to3 : Nat) : Int))), (0, .ref hm0), (1, .int (zI set))]) hx hb dX9_reach_94 hl (k := 1) rfl (zI_add _ _) (by decide) rfl (fun ls hl => ?_)
                        refine lv_goto (tgt := 32) hx hb dX9_reach_97 (by decide) ?_
                        exact ih32 (w + 1) to3 H locs ls (by omega) (by rw [tn1 hw.1, rcW, ← hto2, Int.toNat_of_nonneg hw.1, hto3]; first | (rw [show t.toNat = Wy.toNat by omega]; done) | (rw [show Wy.toNat = t.toNat + (Wy.toNat - t.toNat) by omega]; exact (rcT_stop (by rw [← hto3]; assumption) _).symm)) (by assumption) (by omega) hP hS (lv_sub hl [0, 2, 3, 4, 5] rfl)
                      · refine lv_iload_n hx hb dX9_reach_62 rfl (lv_at hl 3 rfl) ?_
                        refine lv_iload_n hx hb dX9_reach_63 rfl (lv_at hl 5 rfl) ?_
                        refine lv_iload hx hb dX9_reach_64 (lv_at hl 0 rfl) ?_
                        refine z_cS (As := [.int (zI set), .int (zI t)]) (rest := [.int (zI ((to3 : Nat) : Int))]) ⟨hx, hb, hml, hown, hts⟩ (c_X9_has l G set t (by first | assumption | omega) (by first | assumption | omega)) (va_cwS 2 hts gX9_reach_X9_has rfl rfl rfl pd_X9_has.2 ⟨(Nat.le_of_ble_eq_true rfl), (Nat.le_of_ble_eq_true rfl)⟩) hK hP hS [] rfl rfl hl.1 rfl (Nat.le_of_ble_eq_true rfl) dX9_reach_66 ⟨Nat.zero_le _, Nat.zero_le _⟩ (fun H locs hP hS => ?_)
                        refine z_ifeq_b (tgt := 85) hx hb dX9_reach_69 (by decide) (fun c_6 => ?_) (fun c_6 => ?_)
                        · refine lv_iconst (v := zI 0) hx hb dX9_reach_85 rfl ?_
                          refine z_ior (a := to3) (b := 0) hx hb dX9_reach_86 ?_
                          refine lv_istore_n (lv' := [(2, .int (zI ((to3 ||| 0 : Nat) : Int))), (5, .int (zI t)), (4, .int (zI w)), (3, .int (zI k)), (0, .ref hm0), (1, .int (zI set))]) hx hb dX9_reach_87 rfl hl (by decide) rfl (fun ls hl => ?_)
                          refine lv_iinc (v := zI (t + 1)) (lv' := [(5, .int (zI (t + 1))), (2, .int (zI ((to3 ||| 0 : Nat) : Int))), (4, .int (zI w)), (3, .int (zI k)), (0, .ref hm0), (1, .int (zI set))]) hx hb dX9_reach_88 hl (k := 1) rfl (zI_add _ _) (by decide) rfl (fun ls hl => ?_)
                          refine lv_goto (tgt := 44) hx hb dX9_reach_91 (by decide) ?_
                          exact ih44 (t + 1) (to3 ||| 0) H locs ls (by omega) (by rw [tn1 ht.1, rcT, ← hto3, Int.toNat_of_nonneg ht.1]; first | (rw [if_pos ⟨by assumption, by assumption⟩]; done) | (rw [if_neg (fun h8 => absurd h8.2 (by assumption)), Nat.or_zero]; done)) (by first | exact or_lt (by assumption) (bit_lt (by omega)) | exact or_lt (by assumption) (by omega)) (by omega) hP hS (lv_sub hl [0, 2, 3, 1, 4, 5] rfl)
                        · refine lv_iconst (v := zI 1) hx hb dX9_reach_72 rfl ?_
                          refine lv_aload_n hx hb dX9_reach_73 rfl (lv_at hl 4 rfl) ?_
                          refine lv_iload hx hb dX9_reach_74 (lv_at hl 1 rfl) ?_
                          refine lv_iload hx hb dX9_reach_76 (lv_at hl 0 rfl) ?_
                          refine z_cV (As := [.int (zI w), .int (zI t)]) (rest := [.int (zI 1), .int (zI ((to3 : Nat) : Int))]) ⟨hx, hb, hml, hown, hts⟩ (c_X9_from l G hm0 S C Wy Li ml ms mw kn mi mk hz mh tr mt tn cu sa to nu wr it sS sC sL sW mq mn mc mr mb w t (by first | assumption | omega) (by first | assumption | omega) (by first | assumption | omega)) (cwV 2 hts gX9_reach_X9_from rfl rfl rfl pd_X9_from ⟨(Nat.le_of_ble_eq_true rfl), (Nat.le_of_ble_eq_true rfl)⟩) hK hP hS [0] rfl rfl rfl rfl rfl hl.1 rfl (Nat.le_of_ble_eq_true rfl) dX9_reach_78 ⟨Nat.zero_le _, Nat.zero_le _⟩ (fun H locs hP hS => ?_)
                          have hq_7 := fromZ_rng (C := C) (Wy := Wy) (w := w) (t := t) ((by first | assumption | omega)) ((by first | assumption | omega)) ((by first | assumption | omega))
                          refine z_shl1 hx hb (by omega) dX9_reach_81 ?_
                          refine lv_goto (tgt := 86) hx hb dX9_reach_82 (by decide) ?_
                          refine z_ior (a := to3) (b := (2 ^ (fromZ S w t).toNat)) hx hb dX9_reach_86 ?_
                          refine lv_istore_n (lv' := [(2, .int (zI ((to3 ||| (2 ^ (fromZ S w t).toNat) : Nat) : Int))), (5, .int (zI t)), (4, .int (zI w)), (3, .int (zI k)), (0, .ref hm0), (1, .int (zI set))]) hx hb dX9_reach_87 rfl hl (by decide) rfl (fun ls hl => ?_)
                          refine lv_iinc (v := zI (t + 1)) (lv' := [(5, .int (zI (t + 1))), (2, .int (zI ((to3 ||| (2 ^ (fromZ S w t).toNat) : Nat) : Int))), (4, .int (zI w)), (3, .int (zI k)), (0, .ref hm0), (1, .int (zI set))]) hx hb dX9_reach_88 hl (k := 1) rfl (zI_add _ _) (by decide) rfl (fun ls hl => ?_)
                          refine lv_goto (tgt := 44) hx hb dX9_reach_91 (by decide) ?_
                          exact ih44 (t + 1) (to3 ||| (2 ^ (fromZ S w t).toNat)) H locs ls (by omega) (by rw [tn1 ht.1, rcT, ← hto3, Int.toNat_of_nonneg ht.1]; first | (rw [if_pos ⟨by assumption, by assumption⟩]; done) | (rw [if_neg (fun h8 => absurd h8.2 (by assumption)), Nat.or_zero]; done)) (by first | exact or_lt (by assumption) (bit_lt (by omega)) | exact or_lt (by assumption) (by omega)) (by omega) hP hS (lv_sub hl [0, 2, 3, 1, 4, 5] rfl)
                exact loop44 _ 0 to2 H locs ls (by omega) rfl (by assumption) (Nat.lt_succ_self _) hP hS (lv_sub hl [0, 1, 2, 3, 4, 5] rfl)
          exact loop32 _ 0 to1 H locs ls (by omega) rfl (by assumption) (Nat.lt_succ_self _) hP hS (lv_sub hl [0, 1, 2, 3, 4] rfl)
    exact loop21 _ 0 (2 ^ (sf 1).toNat) H locs ls (by omega) rfl (by exact bit_lt (by omega)) (Nat.lt_succ_self _) hP hS (lv_sub hl [0, 1, 2, 3] rfl)
  · refine lv_iconst (v := zI (-1)) hx hb dX9_reach_8 rfl ?_
    exact hret H locs ls 9 _ (congrArg zI (by rw [if_neg (by omega)])) hS dX9_reach_9
theorem pd_X9_lastsBy : yX9_lastsBy.cls = RX9 ∧ yX9_lastsBy.cls ≠ "java/lang/invoke/MethodHandle" ∧ yX9_lastsBy.cls ≠ "java/lang/invoke/VarHandle" ∧ (parseMethodDescriptor yX9_lastsBy.desc).map (fun d => d.parameters.length) = some 1 := by decide +kernel
abbrev rmX9_lastsBy : Room := { frames := 2, cells := 0, slots := 0, locals := 45 }
set_option maxHeartbeats 4000000 in
set_option maxRecDepth 100000 in
theorem c_X9_lastsBy (l : Launch) (G : CX) (hm0 : Nat) (S : Int) (C : Int) (Wy : Int) (Li : Int) (ml : Nat) (ms : Nat) (mw : Nat) (kn : Int) (mi : Nat) (mk : Nat) (hz : Int) (mh : Nat) (tr : Int64) (mt : Nat) (tn : Int) (cu : Int) (sa : Int) (to : Int) (nu : Int) (wr : Int) (it : Int) (sS : Int) (sC : Int) (sL : Int) (sW : Int) (mq : Nat) (mn : Nat) (mc : Nat) (mr : Nat) (mb : Nat) (nf : Int → Int) (sf : Int → Int) (ld : Int → Int) (t : Int) (hB : (2 ≤ S ∧ S ≤ 6) ∧ (C = 1 ∧ Wy = S ∨ C = 2 ∧ Wy = 2 * S)) (hLi : 5 ≤ Li ∧ Li ≤ 99) (hl1 : 0 ≤ sf 1 ∧ sf 1 < Wy) (hsr : ∀ i : Int, 0 ≤ i → i < 12 → 0 ≤ sf (3 + i) ∧ sf (3 + i) ≤ 999) (hld : ∀ i : Int, 0 ≤ i → i < 12 → 1 ≤ ld i ∧ ld i ≤ 9) (ht : 0 ≤ t ∧ t < Wy) : Met l yX9_lastsBy wsX9_lastsBy rmX9_lastsBy (wrP G [.ref hm0, .int (zI t)] [(hm0, .inr (9, [.int (zI S), .int (zI C), .int (zI Wy), .int (zI Li), .ref ml, .ref ms, .ref mw, .int (zI kn), .ref mi, .ref mk, .int (zI hz), .ref mh, .long tr, .ref mt, .int (zI tn), .int (zI cu), .int (zI sa), .int (zI to), .int (zI nu), .int (zI wr), .int (zI it), .int (zI sS), .int (zI sC), .int (zI sL), .int (zI sW), .ref mq, .ref mn, .ref mc, .ref mr, .ref mb])), (mn, .inl (G.2.1, 15, .inl (aZ nf))), (ms, .inl (G.2.1, 15, .inl (aZ sf))), (ml, .inl (G.2.1, 12, .inl (aZ ld)))]) (wrQ G [(hm0, .inr (9, [.int (zI S), .int (zI C), .int (zI Wy), .int (zI Li), .ref ml, .ref ms, .ref mw, .int (zI kn), .ref mi, .ref mk, .int (zI hz), .ref mh, .long tr, .ref mt, .int (zI tn), .int (zI cu), .int (zI sa), .int (zI to), .int (zI nu), .int (zI wr), .int (zI it), .int (zI sS), .int (zI sC), .int (zI sL), .int (zI sW), .ref mq, .ref mn, .ref mc, .ref mr, .ref mb])), (mn, .inl (G.2.1, 15, .inl (aZ nf))), (ms, .inl (G.2.1, 15, .inl (aZ sf))), (ml, .inl (G.2.1, 12, .inl (aZ ld)))] (fun (r_ : Int32) (u : (Int → Int)) => match u with | nf2 => r_ = zI (lsZ S t (sf 1) Li Wy ld (fun i => sf (3 + i))) ∧ (True)) (fun (u : (Int → Int)) => match u with | nf2 => [(hm0, .inr (9, [.int (zI S), .int (zI C), .int (zI Wy), .int (zI Li), .ref ml, .ref ms, .ref mw, .int (zI kn), .ref mi, .ref mk, .int (zI hz), .ref mh, .long tr, .ref mt, .int (zI tn), .int (zI cu), .int (zI sa), .int (zI to), .int (zI nu), .int (zI wr), .int (zI it), .int (zI sS), .int (zI sC), .int (zI sL), .int (zI sW), .ref mq, .ref mn, .ref mc, .ref mr, .ref mb])), (mn, .inl (G.2.1, 15, .inl (aZ nf2))), (ms, .inl (G.2.1, 15, .inl (aZ sf))), (ml, .inl (G.2.1, 12, .inl (aZ ld)))])) 0 0 (wrA [(hm0, .inr (9, [.int (zI S), .int (zI C), .int (zI Wy), .int (zI Li), .ref ml, .ref ms, .ref mw, .int (zI kn), .ref mi, .ref mk, .int (zI hz), .ref mh, .long tr, .ref mt, .int (zI tn), .int (zI cu), .int (zI sa), .int (zI to), .int (zI nu), .int (zI wr), .int (zI it), .int (zI sS), .int (zI sC), .int (zI sL), .int (zI sW), .ref mq, .ref mn, .ref mc, .ref mr, .ref mb])), (mn, .inl (G.2.1, 15, .inl (aZ nf))), (ms, .inl (G.2.1, 15, .inl (aZ sf))), (ml, .inl (G.2.1, 12, .inl (aZ ld)))]) := by
  refine wr_ofW (cc := cX9_lastsBy) (maxL := 3) (ty := .int) (by decide) rfl (Nat.le_of_ble_eq_true rfl) ?_
  intro p e s m below meth c Q A hx hb hml hown hts hK hret H locs hP hD hS ls hl
  have hown : s.vm.findClass RX9 = some m.cls := hown
  have hl : lv_has ls 3 [(0, .ref hm0), (1, .int (zI t))] := hl
  refine lv_aload_n hx hb dX9_lastsBy_0 rfl (lv_at hl 0 rfl) ?_
  refine z_wVv (As := []) (rest := []) ⟨hx, hb, hml, hown, hts⟩ (c_X9_asItIs l G hm0 S C Wy Li ml ms mw kn mi mk hz mh tr mt tn cu sa to nu wr it sS sC sL sW mq mn mc mr mb nf sf ) (cwV 0 hts gX9_lastsBy_X9_asItIs rfl rfl rfl pd_X9_asItIs ⟨(Nat.le_of_ble_eq_true rfl), (Nat.le_of_ble_eq_true rfl)⟩) hK hP hD hS [0, 1, 2] (by decide) rfl rfl rfl rfl (fun _ => Eq.trans (b := [hm0, mn, ms]) rfl rfl) rfl hl.1 rfl (Nat.le_of_ble_eq_true rfl) dX9_lastsBy_1 ⟨Nat.zero_le _, Nat.zero_le _⟩ (fun u_ H locs hw_1 hP hD hS => ?_)
  try dsimp only at hw_1
  have hP : kP G [(hm0, .inr (9, [.int (zI S), .int (zI C), .int (zI Wy), .int (zI Li), .ref ml, .ref ms, .ref mw, .int (zI kn), .ref mi, .ref mk, .int (zI hz), .ref mh, .long tr, .ref mt, .int (zI tn), .int (zI cu), .int (zI sa), .int (zI to), .int (zI nu), .int (zI wr), .int (zI it), .int (zI sS), .int (zI sC), .int (zI sL), .int (zI sW), .ref mq, .ref mn, .ref mc, .ref mr, .ref mb])), (mn, .inl (G.2.1, 15, .inl (aZ (cpK nf 0 sf 0 15)))), (ms, .inl (G.2.1, 15, .inl (aZ sf))), (ml, .inl (G.2.1, 12, .inl (aZ ld)))] H := hP
  have hD : va_D A [(hm0, .inr (9, [.int (zI S), .int (zI C), .int (zI Wy), .int (zI Li), .ref ml, .ref ms, .ref mw, .int (zI kn), .ref mi, .ref mk, .int (zI hz), .ref mh, .long tr, .ref mt, .int (zI tn), .int (zI cu), .int (zI sa), .int (zI to), .int (zI nu), .int (zI wr), .int (zI it), .int (zI sS), .int (zI sC), .int (zI sL), .int (zI sW), .ref mq, .ref mn, .ref mc, .ref mr, .ref mb])), (mn, .inl (G.2.1, 15, .inl (aZ (cpK nf 0 sf 0 15)))), (ms, .inl (G.2.1, 15, .inl (aZ sf))), (ml, .inl (G.2.1, 12, .inl (aZ ld)))] := hD
  refine lv_iconst (v := zI 0) hx hb dX9_lastsBy_4 rfl ?_
  refine lv_istore_n (lv' := [(2, .int (zI 0)), (0, .ref hm0), (1, .int (zI t))]) hx hb dX9_lastsBy_5 rfl hl (by decide) rfl (fun ls hl => ?_)
  have loop6 : ∀ (n_ : Nat) (n : Int) (g : Int → Int) (H : Heap) (locs : List Loc) (ls : Array Slot), (0 ≤ n ∧ n ≤ 1200) → (stA S t (sf 1) ld (fun i => sf (3 + i)) n.toNat g) → (∀ j : Nat, (j : Int) < n → ¬ Li ≤ grZ (lsW S t (sf 1) ld (fun i => sf (3 + i)) j) Wy.toNat) → (n ≤ smZ (fun i => g (3 + i)) Wy.toNat) → (∀ i : Int, 0 ≤ i → i < 12 → 0 ≤ g (3 + i) ∧ g (3 + i) ≤ 999) → (0 ≤ g 1 ∧ g 1 < Wy) → (1300 - smZ (fun i => g (3 + i)) Wy.toNat).toNat < n_ → kP G [(hm0, .inr (9, [.int (zI S), .int (zI C), .int (zI Wy), .int (zI Li), .ref ml, .ref ms, .ref mw, .int (zI kn), .ref mi, .ref mk, .int (zI hz), .ref mh, .long tr, .ref mt, .int (zI tn), .int (zI cu), .int (zI sa), .int (zI to), .int (zI nu), .int (zI wr), .int (zI it), .int (zI sS), .int (zI sC), .int (zI sL), .int (zI sW), .ref mq, .ref mn, .ref mc, .ref mr, .ref mb])), (mn, .inl (G.2.1, 15, .inl (aZ g))), (ms, .inl (G.2.1, 15, .inl (aZ sf))), (ml, .inl (G.2.1, 12, .inl (aZ ld)))] H → va_D A [(hm0, .inr (9, [.int (zI S), .int (zI C), .int (zI Wy), .int (zI Li), .ref ml, .ref ms, .ref mw, .int (zI kn), .ref mi, .ref mk, .int (zI hz), .ref mh, .long tr, .ref mt, .int (zI tn), .int (zI cu), .int (zI sa), .int (zI to), .int (zI nu), .int (zI wr), .int (zI it), .int (zI sS), .int (zI sC), .int (zI sL), .int (zI sW), .ref mq, .ref mn, .ref mc, .ref mr, .ref mb])), (mn, .inl (G.2.1, 15, .inl (aZ g))), (ms, .inl (G.2.1, 15, .inl (aZ sf))), (ml, .inl (G.2.1, 12, .inl (aZ ld)))] → va_S A s.heap H locs → lv_has ls 3 [(2, .int (zI n)), (0, .ref hm0), (1, .int (zI t))] → W p l e rmX9_lastsBy s m ([.ref hm0, .int (zI t)] : List Value).toArray below meth c H locs 0 0 Q (F0 m 6 ls []) := by
    intro n_
    induction n_ with
    | zero =>
      intro n g H locs ls hn hst hno hsm hgr hg1 hm
      exact absurd hm (Nat.not_lt_zero _)
    | succ n_ ih6 =>
      intro n g H locs ls hn hst hno hsm hgr hg1 hm6 hP hD hS hl
      refine lv_aload_n hx hb dX9_lastsBy_6 rfl (lv_at hl 1 rfl) ?_
      refine z_cV (As := []) (rest := []) ⟨hx, hb, hml, hown, hts⟩ (c_X9_isOut l G hm0 S C Wy Li ml ms mw kn mi mk hz mh tr mt tn cu sa to nu wr it sS sC sL sW mq mn mc mr mb g (by first | assumption | omega) (by assumption) (by first | assumption | omega)) (cwV 0 hts gX9_lastsBy_X9_isOut rfl rfl rfl pd_X9_isOut ⟨(Nat.le_of_ble_eq_true rfl), (Nat.le_of_ble_eq_true rfl)⟩) hK hP hS [0, 1] rfl rfl rfl rfl rfl hl.1 rfl (Nat.le_of_ble_eq_true rfl) dX9_lastsBy_7 ⟨Nat.zero_le _, Nat.zero_le _⟩ (fun H locs hP hS => ?_)
      refine z_ifne_b (tgt := 36) hx hb dX9_lastsBy_10 (by decide) (fun c_2 => ?_) (fun c_2 => ?_)
      · have hgq : grZ (fun i => g (3 + i)) Wy.toNat = grZ (lsW S t (sf 1) ld (fun i => sf (3 + i)) n.toNat) Wy.toNat := grZ_cong _ (fun i h1 h2 => hst.2 i h1 (by omega))
        refine lv_iload_n hx hb dX9_lastsBy_36 rfl (lv_at hl 0 rfl) ?_
        exact hret H locs ls 37 _ (g) rfl ⟨congrArg zI (by exact ls_fst hn (by rw [← hgq]; assumption) hno), by trivial⟩ hP hS dX9_lastsBy_37
      · have hls := ls_step hB ht hLi hld hg1 hgr (by assumption)
        have hfr := fromZ_rng hB hg1 ht
        refine lv_aload_n hx hb dX9_lastsBy_13 rfl (lv_at hl 1 rfl) ?_
        refine lv_iload_n hx hb dX9_lastsBy_14 rfl (lv_at hl 2 rfl) ?_
        refine z_wVv (As := [.int (zI t)]) (rest := []) ⟨hx, hb, hml, hown, hts⟩ (c_X9_turns l G hm0 S C Wy Li ml ms mw kn mi mk hz mh tr mt tn cu sa to nu wr it sS sC sL sW mq mn mc mr mb g t (by first | assumption | omega) (by first | assumption | omega) (by first | assumption | omega)) (cwV 1 hts gX9_lastsBy_X9_turns rfl rfl rfl pd_X9_turns ⟨(Nat.le_of_ble_eq_true rfl), (Nat.le_of_ble_eq_true rfl)⟩) hK hP hD hS [0, 1] (by decide) rfl rfl rfl rfl (fun _ => Eq.trans (b := [hm0, mn]) rfl rfl) rfl hl.1 rfl (Nat.le_of_ble_eq_true rfl) dX9_lastsBy_15 ⟨Nat.zero_le _, Nat.zero_le _⟩ (fun u_ H locs hw_3 hP hD hS => ?_)
        try dsimp only at hw_3
        have hP : kP G [(hm0, .inr (9, [.int (zI S), .int (zI C), .int (zI Wy), .int (zI Li), .ref ml, .ref ms, .ref mw, .int (zI kn), .ref mi, .ref mk, .int (zI hz), .ref mh, .long tr, .ref mt, .int (zI tn), .int (zI cu), .int (zI sa), .int (zI to), .int (zI nu), .int (zI wr), .int (zI it), .int (zI sS), .int (zI sC), .int (zI sL), .int (zI sW), .ref mq, .ref mn, .ref mc, .ref mr, .ref mb])), (mn, .inl (G.2.1, 15, .inl (aZ (uZ g 1 (fromZ S (g 1) t))))), (ms, .inl (G.2.1, 15, .inl (aZ sf))), (ml, .inl (G.2.1, 12, .inl (aZ ld)))] H := hP
        have hD : va_D A [(hm0, .inr (9, [.int (zI S), .int (zI C), .int (zI Wy), .int (zI Li), .ref ml, .ref ms, .ref mw, .int (zI kn), .ref mi, .ref mk, .int (zI hz), .ref mh, .long tr, .ref mt, .int (zI tn), .int (zI cu), .int (zI sa), .int (zI to), .int (zI nu), .int (zI wr), .int (zI it), .int (zI sS), .int (zI sC), .int (zI sL), .int (zI sW), .ref mq, .ref mn, .ref mc, .ref mr, .ref mb])), (mn, .inl (G.2.1, 15, .inl (aZ (uZ g 1 (fromZ S (g 1) t))))), (ms, .inl (G.2.1, 15, .inl (aZ sf))), (ml, .inl (G.2.1, 12, .inl (aZ ld)))] := hD
        refine lv_iload_n hx hb dX9_lastsBy_18 rfl (lv_at hl 0 rfl) ?_
        refine lv_aload_n hx hb dX9_lastsBy_19 rfl (lv_at hl 1 rfl) ?_
        refine z_wV (As := []) (rest := [.int (zI n)]) ⟨hx, hb, hml, hown, hts⟩ (c_X9_goes l G hm0 S C Wy Li ml ms mw kn mi mk hz mh tr mt tn cu sa to nu wr it sS sC sL sW mq mn mc mr mb (uZ g 1 (fromZ S (g 1) t)) ld (by first | assumption | omega) (by rw [uZ_same]; omega) (by exact fun i h1 h2 => by rw [uZ_ne _ _ (by omega)]; exact hgr i h1 h2) (by first | assumption | omega)) (cwV 0 hts gX9_lastsBy_X9_goes rfl rfl rfl pd_X9_goes ⟨(Nat.le_of_ble_eq_true rfl), (Nat.le_of_ble_eq_true rfl)⟩) hK hP hD hS [0, 1, 3] (by decide) rfl rfl rfl rfl (fun _ => Eq.trans (b := [hm0, mn, ml]) rfl rfl) rfl hl.1 rfl (Nat.le_of_ble_eq_true rfl) dX9_lastsBy_20 ⟨Nat.zero_le _, Nat.zero_le _⟩ (fun r_ u_ H locs hw_5 hP hD hS => ?_)
        obtain ⟨nf2_4, rfl⟩ : ∃ z, z = u_ := ⟨_, rfl⟩
        obtain ⟨rfl, hw_5⟩ := hw_5
        try dsimp only at hw_5
        obtain rfl := hw_5
        have hP : kP G [(hm0, .inr (9, [.int (zI S), .int (zI C), .int (zI Wy), .int (zI Li), .ref ml, .ref ms, .ref mw, .int (zI kn), .ref mi, .ref mk, .int (zI hz), .ref mh, .long tr, .ref mt, .int (zI tn), .int (zI cu), .int (zI sa), .int (zI to), .int (zI nu), .int (zI wr), .int (zI it), .int (zI sS), .int (zI sC), .int (zI sL), .int (zI sW), .ref mq, .ref mn, .ref mc, .ref mr, .ref mb])), (mn, .inl (G.2.1, 15, .inl (aZ (uZ (uZ (uZ g 1 (fromZ S (g 1) t)) (3 + (uZ g 1 (fromZ S (g 1) t)) 1) (if 999 < (uZ g 1 (fromZ S (g 1) t)) (3 + (uZ g 1 (fromZ S (g 1) t)) 1) + ld ((uZ g 1 (fromZ S (g 1) t)) 1) then 999 else (uZ g 1 (fromZ S (g 1) t)) (3 + (uZ g 1 (fromZ S (g 1) t)) 1) + ld ((uZ g 1 (fromZ S (g 1) t)) 1))) 0 ((uZ g 1 (fromZ S (g 1) t)) 0 + 1))))), (ms, .inl (G.2.1, 15, .inl (aZ sf))), (ml, .inl (G.2.1, 12, .inl (aZ ld)))] H := hP
        have hD : va_D A [(hm0, .inr (9, [.int (zI S), .int (zI C), .int (zI Wy), .int (zI Li), .ref ml, .ref ms, .ref mw, .int (zI kn), .ref mi, .ref mk, .int (zI hz), .ref mh, .long tr, .ref mt, .int (zI tn), .int (zI cu), .int (zI sa), .int (zI to), .int (zI nu), .int (zI wr), .int (zI it), .int (zI sS), .int (zI sC), .int (zI sL), .int (zI sW), .ref mq, .ref mn, .ref mc, .ref mr, .ref mb])), (mn, .inl (G.2.1, 15, .inl (aZ (uZ (uZ (uZ g 1 (fromZ S (g 1) t)) (3 + (uZ g 1 (fromZ S (g 1) t)) 1) (if 999 < (uZ g 1 (fromZ S (g 1) t)) (3 + (uZ g 1 (fromZ S (g 1) t)) 1) + ld ((uZ g 1 (fromZ S (g 1) t)) 1) then 999 else (uZ g 1 (fromZ S (g 1) t)) (3 + (uZ g 1 (fromZ S (g 1) t)) 1) + ld ((uZ g 1 (fromZ S (g 1) t)) 1))) 0 ((uZ g 1 (fromZ S (g 1) t)) 0 + 1))))), (ms, .inl (G.2.1, 15, .inl (aZ sf))), (ml, .inl (G.2.1, 12, .inl (aZ ld)))] := hD
        obtain ⟨gz, hgz, hgzr⟩ : ∃ gz : Int, (if 999 < (uZ g 1 (fromZ S (g 1) t)) (3 + (uZ g 1 (fromZ S (g 1) t)) 1) + ld ((uZ g 1 (fromZ S (g 1) t)) 1) then 999 else (uZ g 1 (fromZ S (g 1) t)) (3 + (uZ g 1 (fromZ S (g 1) t)) 1) + ld ((uZ g 1 (fromZ S (g 1) t)) 1)) = gz ∧ 0 ≤ gz ∧ gz ≤ 999 := ⟨_, rfl, ite_cap (by rw [uZ_same, uZ_ne _ _ (by omega)]; have h7 := hgr (fromZ S (g 1) t) (by omega) (by omega); have h8 := hld (fromZ S (g 1) t) (by omega) (by omega); omega)⟩
        refine z_top hgz ?_
        refine z_if_lt (tgt := 30) hx hb (by omega) dX9_lastsBy_23 (by decide) (fun c_6 => ?_) (fun c_6 => ?_)
        · exact absurd c_6 (by omega)
        · refine lv_iconst (v := zI 1) hx hb dX9_lastsBy_26 rfl ?_
          refine lv_goto (tgt := 31) hx hb dX9_lastsBy_27 (by decide) ?_
          refine z_iadd hx hb dX9_lastsBy_31 ?_
          refine lv_istore_n (lv' := [(2, .int (zI (n + 1))), (0, .ref hm0), (1, .int (zI t))]) hx hb dX9_lastsBy_32 rfl hl (by decide) rfl (fun ls hl => ?_)
          refine lv_goto (tgt := 6) hx hb dX9_lastsBy_33 (by decide) ?_
          have hgq : grZ (fun i => g (3 + i)) Wy.toNat = grZ (lsW S t (sf 1) ld (fun i => sf (3 + i)) n.toNat) Wy.toNat := grZ_cong _ (fun i h1 h2 => hst.2 i h1 (by omega))
          exact ih6 (n + 1) (uZ (uZ (uZ g 1 (fromZ S (g 1) t)) (3 + (uZ g 1 (fromZ S (g 1) t)) 1) (if 999 < (uZ g 1 (fromZ S (g 1) t)) (3 + (uZ g 1 (fromZ S (g 1) t)) 1) + ld ((uZ g 1 (fromZ S (g 1) t)) 1) then 999 else (uZ g 1 (fromZ S (g 1) t)) (3 + (uZ g 1 (fromZ S (g 1) t)) 1) + ld ((uZ g 1 (fromZ S (g 1) t)) 1))) 0 ((uZ g 1 (fromZ S (g 1) t)) 0 + 1)) H locs ls (by omega) (by rw [tn1 hn.1]; exact stA_step hB ht hl1 hld hst (by omega)) (by intro j hj; by_cases ej : (j : Int) < n; exact hno j ej; rw [show j = n.toNat by omega, ← hgq]; omega) (by have h9 := hls.2.2.1; unfold tgF at h9; omega) (by exact hls.2.2.2.2) (by exact hls.2.2.2.1) (by have h9 := hls.2.2.1; unfold tgF at h9; omega) hP hD hS (lv_sub hl [0, 1, 2] rfl)
  exact loop6 _ 0 (cpK nf 0 sf 0 15) H locs ls (by omega) (by exact ⟨cp15 (by omega), fun i h1 h2 => cp15 (by omega)⟩) (by intro j hj; omega) (by exact smZ_nn _ (fun i h1 h2 => by rw [cp15 (by omega)]; exact (hsr i h1 (by omega)).1)) (by exact fun i h1 h2 => by rw [cp15 (by omega)]; exact hsr i h1 h2) (by rw [cp15 (by omega)]; exact hl1) (Nat.lt_succ_self _) hP hD hS (lv_sub hl [0, 1, 2] rfl)
theorem pd_X9_lasts : yX9_lasts.cls = RX9 ∧ yX9_lasts.cls ≠ "java/lang/invoke/MethodHandle" ∧ yX9_lasts.cls ≠ "java/lang/invoke/VarHandle" ∧ (parseMethodDescriptor yX9_lasts.desc).map (fun d => d.parameters.length) = some 1 := by decide +kernel
abbrev rmX9_lasts : Room := { frames := 3, cells := 0, slots := 0, locals := 67 }
set_option maxHeartbeats 4000000 in
set_option maxRecDepth 100000 in
theorem c_X9_lasts (l : Launch) (G : CX) (hm0 : Nat) (S : Int) (C : Int) (Wy : Int) (Li : Int) (ml : Nat) (ms : Nat) (mw : Nat) (kn : Int) (mi : Nat) (mk : Nat) (hz : Int) (mh : Nat) (tr : Int64) (mt : Nat) (tn : Int) (cu : Int) (sa : Int) (to : Int) (nu : Int) (wr : Int) (it : Int) (sS : Int) (sC : Int) (sL : Int) (sW : Int) (mq : Nat) (mn : Nat) (mc : Nat) (mr : Nat) (mb : Nat) (nf : Int → Int) (sf : Int → Int) (ld : Int → Int) (t : Int) (hB : (2 ≤ S ∧ S ≤ 6) ∧ (C = 1 ∧ Wy = S ∨ C = 2 ∧ Wy = 2 * S)) (hLi : 5 ≤ Li ∧ Li ≤ 99) (hl1 : 0 ≤ sf 1 ∧ sf 1 < Wy) (hsr : ∀ i : Int, 0 ≤ i → i < 12 → 0 ≤ sf (3 + i) ∧ sf (3 + i) ≤ 999) (hld : ∀ i : Int, 0 ≤ i → i < 12 → 1 ≤ ld i ∧ ld i ≤ 9) (hr_t : -2147483648 ≤ t ∧ t < 2147483648) : Met l yX9_lasts wsX9_lasts rmX9_lasts (wrP G [.ref hm0, .int (zI t)] [(hm0, .inr (9, [.int (zI S), .int (zI C), .int (zI Wy), .int (zI Li), .ref ml, .ref ms, .ref mw, .int (zI kn), .ref mi, .ref mk, .int (zI hz), .ref mh, .long tr, .ref mt, .int (zI tn), .int (zI cu), .int (zI sa), .int (zI to), .int (zI nu), .int (zI wr), .int (zI it), .int (zI sS), .int (zI sC), .int (zI sL), .int (zI sW), .ref mq, .ref mn, .ref mc, .ref mr, .ref mb])), (mn, .inl (G.2.1, 15, .inl (aZ nf))), (ms, .inl (G.2.1, 15, .inl (aZ sf))), (ml, .inl (G.2.1, 12, .inl (aZ ld)))]) (wrQ G [(hm0, .inr (9, [.int (zI S), .int (zI C), .int (zI Wy), .int (zI Li), .ref ml, .ref ms, .ref mw, .int (zI kn), .ref mi, .ref mk, .int (zI hz), .ref mh, .long tr, .ref mt, .int (zI tn), .int (zI cu), .int (zI sa), .int (zI to), .int (zI nu), .int (zI wr), .int (zI it), .int (zI sS), .int (zI sC), .int (zI sL), .int (zI sW), .ref mq, .ref mn, .ref mc, .ref mr, .ref mb])), (mn, .inl (G.2.1, 15, .inl (aZ nf))), (ms, .inl (G.2.1, 15, .inl (aZ sf))), (ml, .inl (G.2.1, 12, .inl (aZ ld)))] (fun (r_ : Int32) (u : (Int → Int)) => match u with | nf2 => r_ = zI (if 0 ≤ t ∧ t < Wy then lsZ S t (sf 1) Li Wy ld (fun i => sf (3 + i)) else -1) ∧ (True)) (fun (u : (Int → Int)) => match u with | nf2 => [(hm0, .inr (9, [.int (zI S), .int (zI C), .int (zI Wy), .int (zI Li), .ref ml, .ref ms, .ref mw, .int (zI kn), .ref mi, .ref mk, .int (zI hz), .ref mh, .long tr, .ref mt, .int (zI tn), .int (zI cu), .int (zI sa), .int (zI to), .int (zI nu), .int (zI wr), .int (zI it), .int (zI sS), .int (zI sC), .int (zI sL), .int (zI sW), .ref mq, .ref mn, .ref mc, .ref mr, .ref mb])), (mn, .inl (G.2.1, 15, .inl (aZ nf2))), (ms, .inl (G.2.1, 15, .inl (aZ sf))), (ml, .inl (G.2.1, 12, .inl (aZ ld)))])) 0 0 (wrA [(hm0, .inr (9, [.int (zI S), .int (zI C), .int (zI Wy), .int (zI Li), .ref ml, .ref ms, .ref mw, .int (zI kn), .ref mi, .ref mk, .int (zI hz), .ref mh, .long tr, .ref mt, .int (zI tn), .int (zI cu), .int (zI sa), .int (zI to), .int (zI nu), .int (zI wr), .int (zI it), .int (zI sS), .int (zI sC), .int (zI sL), .int (zI sW), .ref mq, .ref mn, .ref mc, .ref mr, .ref mb])), (mn, .inl (G.2.1, 15, .inl (aZ nf))), (ms, .inl (G.2.1, 15, .inl (aZ sf))), (ml, .inl (G.2.1, 12, .inl (aZ ld)))]) := by
  refine wr_ofW (cc := cX9_lasts) (maxL := 2) (ty := .int) (by decide) rfl (Nat.le_of_ble_eq_true rfl) ?_
  intro p e s m below meth c Q A hx hb hml hown hts hK hret H locs hP hD hS ls hl
  have hown : s.vm.findClass RX9 = some m.cls := hown
  have hl : lv_has ls 2 [(0, .ref hm0), (1, .int (zI t))] := hl
  refine lv_aload_n hx hb dX9_lasts_0 rfl (lv_at hl 0 rfl) ?_
  refine lv_iload_n hx hb dX9_lasts_1 rfl (lv_at hl 1 rfl) ?_
  refine z_cV (As := [.int (zI t)]) (rest := []) ⟨hx, hb, hml, hown, hts⟩ (c_X9_isWay l G hm0 S C Wy Li ml ms mw kn mi mk hz mh tr mt tn cu sa to nu wr it sS sC sL sW mq mn mc mr mb t (by first | assumption | omega) (by first | assumption | omega)) (cwV 1 hts gX9_lasts_X9_isWay rfl rfl rfl pd_X9_isWay ⟨(Nat.le_of_ble_eq_true rfl), (Nat.le_of_ble_eq_true rfl)⟩) hK hP hS [0] rfl rfl rfl rfl rfl hl.1 rfl (Nat.le_of_ble_eq_true rfl) dX9_lasts_2 ⟨Nat.zero_le _, Nat.zero_le _⟩ (fun H locs hP hS => ?_)
  refine z_ifeq_b (tgt := 16) hx hb dX9_lasts_5 (by decide) (fun c_1 => ?_) (fun c_1 => ?_)
  · refine lv_iconst (v := zI (-1)) hx hb dX9_lasts_16 rfl ?_
    exact hret H locs ls 17 _ (nf) rfl ⟨congrArg zI (by (repeat' split) <;> first | rfl | omega), by trivial⟩ hP hS dX9_lasts_17
  · refine lv_aload_n hx hb dX9_lasts_8 rfl (lv_at hl 0 rfl) ?_
    refine lv_iload_n hx hb dX9_lasts_9 rfl (lv_at hl 1 rfl) ?_
    refine z_wV (As := [.int (zI t)]) (rest := []) ⟨hx, hb, hml, hown, hts⟩ (c_X9_lastsBy l G hm0 S C Wy Li ml ms mw kn mi mk hz mh tr mt tn cu sa to nu wr it sS sC sL sW mq mn mc mr mb nf sf ld t (by first | assumption | omega) (by first | assumption | omega) (by first | assumption | omega) (by first | assumption | omega) (by first | assumption | omega) (by first | assumption | omega)) (cwV 1 hts gX9_lasts_X9_lastsBy rfl rfl rfl pd_X9_lastsBy ⟨(Nat.le_of_ble_eq_true rfl), (Nat.le_of_ble_eq_true rfl)⟩) hK hP hD hS [0, 1, 2, 3] (by decide) rfl rfl rfl rfl (fun _ => Eq.trans (b := [hm0, mn, ms, ml]) rfl rfl) rfl hl.1 rfl (Nat.le_of_ble_eq_true rfl) dX9_lasts_10 ⟨Nat.zero_le _, Nat.zero_le _⟩ (fun r_ u_ H locs hw_3 hP hD hS => ?_)
    obtain ⟨nf2_2, rfl⟩ : ∃ z, z = u_ := ⟨_, rfl⟩
    obtain ⟨rfl, hw_3⟩ := hw_3
    try dsimp only at hw_3
    have hP : kP G [(hm0, .inr (9, [.int (zI S), .int (zI C), .int (zI Wy), .int (zI Li), .ref ml, .ref ms, .ref mw, .int (zI kn), .ref mi, .ref mk, .int (zI hz), .ref mh, .long tr, .ref mt, .int (zI tn), .int (zI cu), .int (zI sa), .int (zI to), .int (zI nu), .int (zI wr), .int (zI it), .int (zI sS), .int (zI sC), .int (zI sL), .int (zI sW), .ref mq, .ref mn, .ref mc, .ref mr, .ref mb])), (mn, .inl (G.2.1, 15, .inl (aZ nf2_2))), (ms, .inl (G.2.1, 15, .inl (aZ sf))), (ml, .inl (G.2.1, 12, .inl (aZ ld)))] H := hP
    have hD : va_D A [(hm0, .inr (9, [.int (zI S), .int (zI C), .int (zI Wy), .int (zI Li), .ref ml, .ref ms, .ref mw, .int (zI kn), .ref mi, .ref mk, .int (zI hz), .ref mh, .long tr, .ref mt, .int (zI tn), .int (zI cu), .int (zI sa), .int (zI to), .int (zI nu), .int (zI wr), .int (zI it), .int (zI sS), .int (zI sC), .int (zI sL), .int (zI sW), .ref mq, .ref mn, .ref mc, .ref mr, .ref mb])), (mn, .inl (G.2.1, 15, .inl (aZ nf2_2))), (ms, .inl (G.2.1, 15, .inl (aZ sf))), (ml, .inl (G.2.1, 12, .inl (aZ ld)))] := hD
    have hq_4 := lsZ_rng S t (sf 1) Li Wy ld (fun i => sf (3 + i))
    refine lv_goto (tgt := 17) hx hb dX9_lasts_13 (by decide) ?_
    exact hret H locs ls 17 _ (nf2_2) rfl ⟨congrArg zI (by (repeat' split) <;> first | rfl | omega), by trivial⟩ hP hS dX9_lasts_17
theorem pd_X9_latest : yX9_latest.cls = RX9 ∧ yX9_latest.cls ≠ "java/lang/invoke/MethodHandle" ∧ yX9_latest.cls ≠ "java/lang/invoke/VarHandle" ∧ (parseMethodDescriptor yX9_latest.desc).map (fun d => d.parameters.length) = some 0 := by decide +kernel
abbrev rmX9_latest : Room := { frames := 3, cells := 0, slots := 0, locals := 67 }
set_option maxHeartbeats 4000000 in
set_option maxRecDepth 100000 in
theorem c_X9_latest (l : Launch) (G : CX) (hm0 : Nat) (S : Int) (C : Int) (Wy : Int) (Li : Int) (ml : Nat) (ms : Nat) (mw : Nat) (kn : Int) (mi : Nat) (mk : Nat) (hz : Int) (mh : Nat) (tr : Int64) (mt : Nat) (tn : Int) (cu : Int) (sa : Int) (to : Int) (nu : Int) (wr : Int) (it : Int) (sS : Int) (sC : Int) (sL : Int) (sW : Int) (mq : Nat) (mn : Nat) (mc : Nat) (mr : Nat) (mb : Nat) (nf : Int → Int) (sf : Int → Int) (ld : Int → Int) (hB : (2 ≤ S ∧ S ≤ 6) ∧ (C = 1 ∧ Wy = S ∨ C = 2 ∧ Wy = 2 * S)) (hLi : 5 ≤ Li ∧ Li ≤ 99) (hl1 : 0 ≤ sf 1 ∧ sf 1 < Wy) (hsr : ∀ i : Int, 0 ≤ i → i < 12 → 0 ≤ sf (3 + i) ∧ sf (3 + i) ≤ 999) (hld : ∀ i : Int, 0 ≤ i → i < 12 → 1 ≤ ld i ∧ ld i ≤ 9) : Met l yX9_latest wsX9_latest rmX9_latest (wrP G [.ref hm0] [(hm0, .inr (9, [.int (zI S), .int (zI C), .int (zI Wy), .int (zI Li), .ref ml, .ref ms, .ref mw, .int (zI kn), .ref mi, .ref mk, .int (zI hz), .ref mh, .long tr, .ref mt, .int (zI tn), .int (zI cu), .int (zI sa), .int (zI to), .int (zI nu), .int (zI wr), .int (zI it), .int (zI sS), .int (zI sC), .int (zI sL), .int (zI sW), .ref mq, .ref mn, .ref mc, .ref mr, .ref mb])), (mn, .inl (G.2.1, 15, .inl (aZ nf))), (ms, .inl (G.2.1, 15, .inl (aZ sf))), (ml, .inl (G.2.1, 12, .inl (aZ ld)))]) (wrQ G [(hm0, .inr (9, [.int (zI S), .int (zI C), .int (zI Wy), .int (zI Li), .ref ml, .ref ms, .ref mw, .int (zI kn), .ref mi, .ref mk, .int (zI hz), .ref mh, .long tr, .ref mt, .int (zI tn), .int (zI cu), .int (zI sa), .int (zI to), .int (zI nu), .int (zI wr), .int (zI it), .int (zI sS), .int (zI sC), .int (zI sL), .int (zI sW), .ref mq, .ref mn, .ref mc, .ref mr, .ref mb])), (mn, .inl (G.2.1, 15, .inl (aZ nf))), (ms, .inl (G.2.1, 15, .inl (aZ sf))), (ml, .inl (G.2.1, 12, .inl (aZ ld)))] (fun (r_ : Int32) (u : (Int → Int)) => match u with | nf2 => r_ = zI ((ltM S (sf 1) Li Wy ld (fun i => sf (3 + i)) Wy.toNat).1) ∧ (True)) (fun (u : (Int → Int)) => match u with | nf2 => [(hm0, .inr (9, [.int (zI S), .int (zI C), .int (zI Wy), .int (zI Li), .ref ml, .ref ms, .ref mw, .int (zI kn), .ref mi, .ref mk, .int (zI hz), .ref mh, .long tr, .ref mt, .int (zI tn), .int (zI cu), .int (zI sa), .int (zI to), .int (zI nu), .int (zI wr), .int (zI it), .int (zI sS), .int (zI sC), .int (zI sL), .int (zI sW), .ref mq, .ref mn, .ref mc, .ref mr, .ref mb])), (mn, .inl (G.2.1, 15, .inl (aZ nf2))), (ms, .inl (G.2.1, 15, .inl (aZ sf))), (ml, .inl (G.2.1, 12, .inl (aZ ld)))])) 0 0 (wrA [(hm0, .inr (9, [.int (zI S), .int (zI C), .int (zI Wy), .int (zI Li), .ref ml, .ref ms, .ref mw, .int (zI kn), .ref mi, .ref mk, .int (zI hz), .ref mh, .long tr, .ref mt, .int (zI tn), .int (zI cu), .int (zI sa), .int (zI to), .int (zI nu), .int (zI wr), .int (zI it), .int (zI sS), .int (zI sC), .int (zI sL), .int (zI sW), .ref mq, .ref mn, .ref mc, .ref mr, .ref mb])), (mn, .inl (G.2.1, 15, .inl (aZ nf))), (ms, .inl (G.2.1, 15, .inl (aZ sf))), (ml, .inl (G.2.1, 12, .inl (aZ ld)))]) := by
  refine wr_ofW (cc := cX9_latest) (maxL := 5) (ty := .int) (by decide) rfl (Nat.le_of_ble_eq_true rfl) ?_
  intro p e s m below meth c Q A hx hb hml hown hts hK hret H locs hP hD hS ls hl
  have hown : s.vm.findClass RX9 = some m.cls := hown
  have hl : lv_has ls 5 [(0, .ref hm0)] := hl
  have f16 := hts (.fieldLink RX9 16 "QuarterTurnsModel" "ways" "I") (by decide +kernel)
  have i9 : ∀ w ∈ wsX90, w ∈ wsX9_latest := fun w h => List.mem_cons_of_mem _ (List.mem_append_right _ h)
  refine lv_iconst (v := zI 0) hx hb dX9_latest_0 rfl ?_
  refine lv_istore_n (lv' := [(1, .int (zI 0)), (0, .ref hm0)]) hx hb dX9_latest_1 rfl hl (by decide) rfl (fun ls hl => ?_)
  refine lv_iconst (v := zI (-1)) hx hb dX9_latest_2 rfl ?_
  refine lv_istore_n (lv' := [(2, .int (zI (-1))), (1, .int (zI 0)), (0, .ref hm0)]) hx hb dX9_latest_3 rfl hl (by decide) rfl (fun ls hl => ?_)
  refine lv_iconst (v := zI 0) hx hb dX9_latest_4 rfl ?_
  refine lv_istore_n (lv' := [(3, .int (zI 0)), (2, .int (zI (-1))), (1, .int (zI 0)), (0, .ref hm0)]) hx hb dX9_latest_5 rfl hl (by decide) rfl (fun ls hl => ?_)
  have loop6 : ∀ (n_ : Nat) (t : Int) (be : Int) (mo : Int) (g : Int → Int) (H : Heap) (locs : List Loc) (ls : Array Slot), (0 ≤ t ∧ t ≤ Wy) → (be = (ltM S (sf 1) Li Wy ld (fun i => sf (3 + i)) t.toNat).1) → (mo = (ltM S (sf 1) Li Wy ld (fun i => sf (3 + i)) t.toNat).2) → (-1 ≤ mo ∧ mo ≤ 1300) → (Wy - t).toNat < n_ → kP G [(hm0, .inr (9, [.int (zI S), .int (zI C), .int (zI Wy), .int (zI Li), .ref ml, .ref ms, .ref mw, .int (zI kn), .ref mi, .ref mk, .int (zI hz), .ref mh, .long tr, .ref mt, .int (zI tn), .int (zI cu), .int (zI sa), .int (zI to), .int (zI nu), .int (zI wr), .int (zI it), .int (zI sS), .int (zI sC), .int (zI sL), .int (zI sW), .ref mq, .ref mn, .ref mc, .ref mr, .ref mb])), (mn, .inl (G.2.1, 15, .inl (aZ g))), (ms, .inl (G.2.1, 15, .inl (aZ sf))), (ml, .inl (G.2.1, 12, .inl (aZ ld)))] H → va_D A [(hm0, .inr (9, [.int (zI S), .int (zI C), .int (zI Wy), .int (zI Li), .ref ml, .ref ms, .ref mw, .int (zI kn), .ref mi, .ref mk, .int (zI hz), .ref mh, .long tr, .ref mt, .int (zI tn), .int (zI cu), .int (zI sa), .int (zI to), .int (zI nu), .int (zI wr), .int (zI it), .int (zI sS), .int (zI sC), .int (zI sL), .int (zI sW), .ref mq, .ref mn, .ref mc, .ref mr, .ref mb])), (mn, .inl (G.2.1, 15, .inl (aZ g))), (ms, .inl (G.2.1, 15, .inl (aZ sf))), (ml, .inl (G.2.1, 12, .inl (aZ ld)))] → va_S A s.heap H locs → lv_has ls 5 [(3, .int (zI t)), (2, .int (zI mo)), (1, .int (zI be)), (0, .ref hm0)] → W p l e rmX9_latest s m ([.ref hm0] : List Value).toArray below meth c H locs 0 0 Q (F0 m 6 ls []) := by
    intro n_
    induction n_ with
    | zero =>
      intro t be mo g H locs ls ht hbe hmo hmr hm
      exact absurd hm (Nat.not_lt_zero _)
    | succ n_ ih6 =>
      intro t be mo g H locs ls ht hbe hmo hmr hm6 hP hD hS hl
      refine lv_iload_n hx hb dX9_latest_6 rfl (lv_at hl 0 rfl) ?_
      refine lv_aload_n hx hb dX9_latest_7 rfl (lv_at hl 3 rfl) ?_
      refine va_get (ci := 9) (v := .int (zI Wy)) (C := RX9) (T := TX9) (N := 30) hx hb hts i9 hown hK hP 0 rfl rfl 2 (by decide) f16 (fun _ h9 => h9) rfl dX9_latest_8 ?_
      refine z_icmp_ge (tgt := 52) hx hb (by omega) dX9_latest_11 (by decide) (fun c_1 => ?_) (fun c_1 => ?_)
      · refine lv_iload_n hx hb dX9_latest_52 rfl (lv_at hl 2 rfl) ?_
        exact hret H locs ls 53 _ (g) rfl ⟨congrArg zI (by rw [hbe, show t = Wy by omega]), by trivial⟩ hP hS dX9_latest_53
      · refine lv_aload_n hx hb dX9_latest_14 rfl (lv_at hl 3 rfl) ?_
        refine lv_iload_n hx hb dX9_latest_15 rfl (lv_at hl 0 rfl) ?_
        refine z_wV (As := [.int (zI t)]) (rest := []) ⟨hx, hb, hml, hown, hts⟩ (c_X9_lastsBy l G hm0 S C Wy Li ml ms mw kn mi mk hz mh tr mt tn cu sa to nu wr it sS sC sL sW mq mn mc mr mb g sf ld t (by first | assumption | omega) (by first | assumption | omega) (by first | assumption | omega) (by first | assumption | omega) (by first | assumption | omega) (by first | assumption | omega)) (cwV 1 hts gX9_latest_X9_lastsBy rfl rfl rfl pd_X9_lastsBy ⟨(Nat.le_of_ble_eq_true rfl), (Nat.le_of_ble_eq_true rfl)⟩) hK hP hD hS [0, 1, 2, 3] (by decide) rfl rfl rfl rfl (fun _ => Eq.trans (b := [hm0, mn, ms, ml]) rfl rfl) rfl hl.1 rfl (Nat.le_of_ble_eq_true rfl) dX9_latest_16 ⟨Nat.zero_le _, Nat.zero_le _⟩ (fun r_ u_ H locs hw_3 hP hD hS => ?_)
        obtain ⟨nf2_2, rfl⟩ : ∃ z, z = u_ := ⟨_, rfl⟩
        obtain ⟨rfl, hw_3⟩ := hw_3
        try dsimp only at hw_3
        have hP : kP G [(hm0, .inr (9, [.int (zI S), .int (zI C), .int (zI Wy), .int (zI Li), .ref ml, .ref ms, .ref mw, .int (zI kn), .ref mi, .ref mk, .int (zI hz), .ref mh, .long tr, .ref mt, .int (zI tn), .int (zI cu), .int (zI sa), .int (zI to), .int (zI nu), .int (zI wr), .int (zI it), .int (zI sS), .int (zI sC), .int (zI sL), .int (zI sW), .ref mq, .ref mn, .ref mc, .ref mr, .ref mb])), (mn, .inl (G.2.1, 15, .inl (aZ nf2_2))), (ms, .inl (G.2.1, 15, .inl (aZ sf))), (ml, .inl (G.2.1, 12, .inl (aZ ld)))] H := hP
        have hD : va_D A [(hm0, .inr (9, [.int (zI S), .int (zI C), .int (zI Wy), .int (zI Li), .ref ml, .ref ms, .ref mw, .int (zI kn), .ref mi, .ref mk, .int (zI hz), .ref mh, .long tr, .ref mt, .int (zI tn), .int (zI cu), .int (zI sa), .int (zI to), .int (zI nu), .int (zI wr), .int (zI it), .int (zI sS), .int (zI sC), .int (zI sL), .int (zI sW), .ref mq, .ref mn, .ref mc, .ref mr, .ref mb])), (mn, .inl (G.2.1, 15, .inl (aZ nf2_2))), (ms, .inl (G.2.1, 15, .inl (aZ sf))), (ml, .inl (G.2.1, 12, .inl (aZ ld)))] := hD
        have hq_4 := lsZ_rng S t (sf 1) Li Wy ld (fun i => sf (3 + i))
        refine lv_istore (lv' := [(4, .int (zI (lsZ S t (sf 1) Li Wy ld (fun i => sf (3 + i))))), (3, .int (zI t)), (2, .int (zI mo)), (1, .int (zI be)), (0, .ref hm0)]) hx hb dX9_latest_19 hl (by decide) rfl (fun ls hl => ?_)
        refine lv_iload hx hb dX9_latest_21 (lv_at hl 0 rfl) ?_
        refine lv_iload_n hx hb dX9_latest_23 rfl (lv_at hl 2 rfl) ?_
        refine z_icmp_le (tgt := 31) hx hb (by omega) dX9_latest_24 (by decide) (fun c_5 => ?_) (fun c_5 => ?_)
        · refine lv_iload_n hx hb dX9_latest_31 rfl (lv_at hl 3 rfl) ?_
          refine lv_istore_n (lv' := [(1, .int (zI be)), (4, .int (zI (lsZ S t (sf 1) Li Wy ld (fun i => sf (3 + i))))), (3, .int (zI t)), (2, .int (zI mo)), (0, .ref hm0)]) hx hb dX9_latest_32 rfl hl (by decide) rfl (fun ls hl => ?_)
          refine lv_iload hx hb dX9_latest_33 (lv_at hl 1 rfl) ?_
          refine lv_iload_n hx hb dX9_latest_35 rfl (lv_at hl 3 rfl) ?_
          refine z_icmp_le (tgt := 44) hx hb (by omega) dX9_latest_36 (by decide) (fun c_6 => ?_) (fun c_6 => ?_)
          · refine lv_iload_n hx hb dX9_latest_44 rfl (lv_at hl 3 rfl) ?_
            refine lv_istore_n (lv' := [(2, .int (zI mo)), (1, .int (zI be)), (4, .int (zI (lsZ S t (sf 1) Li Wy ld (fun i => sf (3 + i))))), (3, .int (zI t)), (0, .ref hm0)]) hx hb dX9_latest_45 rfl hl (by decide) rfl (fun ls hl => ?_)
            refine lv_iinc (v := zI (t + 1)) (lv' := [(3, .int (zI (t + 1))), (2, .int (zI mo)), (1, .int (zI be)), (4, .int (zI (lsZ S t (sf 1) Li Wy ld (fun i => sf (3 + i))))), (0, .ref hm0)]) hx hb dX9_latest_46 hl (k := 3) rfl (zI_add _ _) (by decide) rfl (fun ls hl => ?_)
            refine lv_goto (tgt := 6) hx hb dX9_latest_49 (by decide) ?_
            exact ih6 (t + 1) be mo nf2_2 H locs ls (by omega) (by rw [tn1 ht.1, ltM, Int.toNat_of_nonneg ht.1, ← hmo]; first | (rw [if_pos (by omega)]; done) | (rw [if_neg (by omega), ← hbe]; done) | (exfalso; omega)) (by rw [tn1 ht.1, ltM, Int.toNat_of_nonneg ht.1, ← hmo]; first | (rw [if_pos (by omega)]; done) | (rw [if_neg (by omega), ← hmo]; done) | (exfalso; omega)) (by omega) (by omega) hP hD hS (lv_sub hl [0, 1, 2, 4] rfl)
          · refine lv_iload hx hb dX9_latest_39 (lv_at hl 1 rfl) ?_
            refine lv_goto (tgt := 45) hx hb dX9_latest_41 (by decide) ?_
            refine lv_istore_n (lv' := [(2, .int (zI (lsZ S t (sf 1) Li Wy ld (fun i => sf (3 + i))))), (1, .int (zI be)), (4, .int (zI (lsZ S t (sf 1) Li Wy ld (fun i => sf (3 + i))))), (3, .int (zI t)), (0, .ref hm0)]) hx hb dX9_latest_45 rfl hl (by decide) rfl (fun ls hl => ?_)
            refine lv_iinc (v := zI (t + 1)) (lv' := [(3, .int (zI (t + 1))), (2, .int (zI (lsZ S t (sf 1) Li Wy ld (fun i => sf (3 + i))))), (1, .int (zI be)), (4, .int (zI (lsZ S t (sf 1) Li Wy ld (fun i => sf (3 + i))))), (0, .ref hm0)]) hx hb dX9_latest_46 hl (k := 3) rfl (zI_add _ _) (by decide) rfl (fun ls hl => ?_)
            refine lv_goto (tgt := 6) hx hb dX9_latest_49 (by decide) ?_
            exact ih6 (t + 1) be (lsZ S t (sf 1) Li Wy ld (fun i => sf (3 + i))) nf2_2 H locs ls (by omega) (by rw [tn1 ht.1, ltM, Int.toNat_of_nonneg ht.1, ← hmo]; first | (rw [if_pos (by omega)]; done) | (rw [if_neg (by omega), ← hbe]; done) | (exfalso; omega)) (by rw [tn1 ht.1, ltM, Int.toNat_of_nonneg ht.1, ← hmo]; first | (rw [if_pos (by omega)]; done) | (rw [if_neg (by omega), ← hmo]; done) | (exfalso; omega)) (by omega) (by omega) hP hD hS (lv_sub hl [0, 1, 2, 4] rfl)
        · refine lv_iload_n hx hb dX9_latest_27 rfl (lv_at hl 1 rfl) ?_
          refine lv_goto (tgt := 32) hx hb dX9_latest_28 (by decide) ?_
          refine lv_istore_n (lv' := [(1, .int (zI t)), (4, .int (zI (lsZ S t (sf 1) Li Wy ld (fun i => sf (3 + i))))), (3, .int (zI t)), (2, .int (zI mo)), (0, .ref hm0)]) hx hb dX9_latest_32 rfl hl (by decide) rfl (fun ls hl => ?_)
          refine lv_iload hx hb dX9_latest_33 (lv_at hl 1 rfl) ?_
          refine lv_iload_n hx hb dX9_latest_35 rfl (lv_at hl 3 rfl) ?_
          refine z_icmp_le (tgt := 44) hx hb (by omega) dX9_latest_36 (by decide) (fun c_7 => ?_) (fun c_7 => ?_)
          · refine lv_iload_n hx hb dX9_latest_44 rfl (lv_at hl 3 rfl) ?_
            refine lv_istore_n (lv' := [(2, .int (zI mo)), (1, .int (zI t)), (4, .int (zI (lsZ S t (sf 1) Li Wy ld (fun i => sf (3 + i))))), (3, .int (zI t)), (0, .ref hm0)]) hx hb dX9_latest_45 rfl hl (by decide) rfl (fun ls hl => ?_)
            refine lv_iinc (v := zI (t + 1)) (lv' := [(3, .int (zI (t + 1))), (2, .int (zI mo)), (1, .int (zI t)), (4, .int (zI (lsZ S t (sf 1) Li Wy ld (fun i => sf (3 + i))))), (0, .ref hm0)]) hx hb dX9_latest_46 hl (k := 3) rfl (zI_add _ _) (by decide) rfl (fun ls hl => ?_)
            refine lv_goto (tgt := 6) hx hb dX9_latest_49 (by decide) ?_
            exact ih6 (t + 1) t mo nf2_2 H locs ls (by omega) (by rw [tn1 ht.1, ltM, Int.toNat_of_nonneg ht.1, ← hmo]; first | (rw [if_pos (by omega)]; done) | (rw [if_neg (by omega), ← hbe]; done) | (exfalso; omega)) (by rw [tn1 ht.1, ltM, Int.toNat_of_nonneg ht.1, ← hmo]; first | (rw [if_pos (by omega)]; done) | (rw [if_neg (by omega), ← hmo]; done) | (exfalso; omega)) (by omega) (by omega) hP hD hS (lv_sub hl [0, 1, 2, 4] rfl)
          · refine lv_iload hx hb dX9_latest_39 (lv_at hl 1 rfl) ?_
            refine lv_goto (tgt := 45) hx hb dX9_latest_41 (by decide) ?_
            refine lv_istore_n (lv' := [(2, .int (zI (lsZ S t (sf 1) Li Wy ld (fun i => sf (3 + i))))), (1, .int (zI t)), (4, .int (zI (lsZ S t (sf 1) Li Wy ld (fun i => sf (3 + i))))), (3, .int (zI t)), (0, .ref hm0)]) hx hb dX9_latest_45 rfl hl (by decide) rfl (fun ls hl => ?_)
            refine lv_iinc (v := zI (t + 1)) (lv' := [(3, .int (zI (t + 1))), (2, .int (zI (lsZ S t (sf 1) Li Wy ld (fun i => sf (3 + i))))), (1, .int (zI t)), (4, .int (zI (lsZ S t (sf 1) Li Wy ld (fun i => sf (3 + i))))), (0, .ref hm0)]) hx hb dX9_latest_46 hl (k := 3) rfl (zI_add _ _) (by decide) rfl (fun ls hl => ?_)
            refine lv_goto (tgt := 6) hx hb dX9_latest_49 (by decide) ?_
            exact ih6 (t + 1) t (lsZ S t (sf 1) Li Wy ld (fun i => sf (3 + i))) nf2_2 H locs ls (by omega) (by rw [tn1 ht.1, ltM, Int.toNat_of_nonneg ht.1, ← hmo]; first | (rw [if_pos (by omega)]; done) | (rw [if_neg (by omega), ← hbe]; done) | (exfalso; omega)) (by rw [tn1 ht.1, ltM, Int.toNat_of_nonneg ht.1, ← hmo]; first | (rw [if_pos (by omega)]; done) | (rw [if_neg (by omega), ← hmo]; done) | (exfalso; omega)) (by omega) (by omega) hP hD hS (lv_sub hl [0, 1, 2, 4] rfl)
  exact loop6 _ 0 0 (-1) nf H locs ls (by omega) rfl rfl (by omega) (Nat.lt_succ_self _) hP hD hS (lv_sub hl [0, 1, 2, 3] rfl)
