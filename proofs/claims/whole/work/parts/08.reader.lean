
/-! WHAT A TEXT IS READ AS: tokens by their places -/
def skG (f : Int → Int) (n : Int) : Nat → Int → Int
  | 0, p => p
  | k + 1, p => if p < n ∧ f p = 32 then skG f n k (p + 1) else p
def tkS (f : Int → Int) (n p : Int) : Int := skG f n (n - p).toNat p
theorem tkS_step {f : Int → Int} {n p : Int} (h : p < n ∧ f p = 32) : tkS f n p = tkS f n (p + 1) := by
  unfold tkS
  rw [show (n - p).toNat = (n - (p + 1)).toNat + 1 by omega]
  show (if p < n ∧ f p = 32 then _ else _) = _
  rw [if_pos h]
theorem tkS_stop {f : Int → Int} {n p : Int} (h : ¬ (p < n ∧ f p = 32)) : tkS f n p = p := by
  unfold tkS
  cases hk : (n - p).toNat with
  | zero => rfl
  | succ k =>
    show (if p < n ∧ f p = 32 then _ else _) = _
    rw [if_neg h]
theorem skG_rng (f : Int → Int) (n : Int) : ∀ (k : Nat) (p : Int), p ≤ skG f n k p ∧ skG f n k p ≤ p + k
  | 0, p => by simp [skG]
  | k + 1, p => by
    have h := skG_rng f n k (p + 1)
    unfold skG
    split <;> omega
theorem tkS_rng {f : Int → Int} {n p : Int} (h : p ≤ n) : p ≤ tkS f n p ∧ tkS f n p ≤ n := by
  have h1 := skG_rng f n (n - p).toNat p
  unfold tkS
  omega
def nmZ (f : Int → Int) (a : Int) : Nat → Int
  | 0 => 0
  | k + 1 => if 10 * nmZ f a k + f (a + (k : Int)) - 48 < 100 then 10 * nmZ f a k + f (a + (k : Int)) - 48 else 100
/-- a number v as the class has it (it stops above 99), x as told: above 99 it is all the same -/
def nmR (v x : Int) : Prop := (v ≤ 99 ∧ x = v) ∨ (99 < v ∧ x = 100)
theorem nmZ_top {f : Int → Int} {a b : Int} (h : ∀ j : Int, a ≤ j → j < b → 48 ≤ f j ∧ f j ≤ 57) {k : Nat} (hk : nmZ f a k = 100) : ∀ j : Nat, a + ((k + j : Nat) : Int) ≤ b → nmZ f a (k + j) = 100
  | 0, _ => hk
  | j + 1, hb => by
    have h1 := nmZ_top h hk j (by omega)
    have h2 := h (a + ((k + j : Nat) : Int)) (by omega) (by omega)
    show nmZ f a ((k + j) + 1) = 100
    rw [nmZ, h1, if_neg (by omega)]
theorem nmR_step {f : Int → Int} {a i v : Int} (hd : 48 ≤ f i ∧ f i ≤ 57) (hi : a ≤ i) (hv : v ≤ 99) (h : nmR v (nmZ f a (i - a).toNat)) : nmR (10 * v + f i - 48) (nmZ f a (i + 1 - a).toNat) := by
  have h1 : nmZ f a (i - a).toNat = v := by
    rcases h with h | h
    · exact h.2
    · omega
  rw [show (i + 1 - a).toNat = (i - a).toNat + 1 by omega, nmZ, h1, show a + (((i - a).toNat : Nat) : Int) = i by omega]
  unfold nmR
  by_cases h2 : 10 * v + f i - 48 < 100
  · rw [if_pos h2]; exact Or.inl ⟨by omega, rfl⟩
  · rw [if_neg h2]; exact Or.inr ⟨by omega, rfl⟩
theorem nmR_fin {f : Int → Int} {a b i v : Int} (hd : ∀ j : Int, a ≤ j → j < b → 48 ≤ f j ∧ f j ≤ 57) (hi : a ≤ i ∧ i ≤ b) (h : nmR v (nmZ f a (i - a).toNat)) (hc : i = b ∨ 99 < v) : nmR v (nmZ f a (b - a).toNat) := by
  rcases hc with rfl | hc
  · exact h
  · rcases h with h | h
    · omega
    · have h1 := nmZ_top hd h.2 (b - i).toNat (by omega)
      rw [show (i - a).toNat + (b - i).toNat = (b - a).toNat by omega] at h1
      exact Or.inr ⟨hc, h1⟩
def tkV (f : Int → Int) (n p : Int) : Int := nmZ f (tkS f n p) (dgZ f n (tkS f n p) - tkS f n p).toNat
def nkZ (f : Int → Int) (a b : Int) : Int := if (f a = 48 ∧ 1 < b - a) ∨ 99 < nmZ f a (b - a).toNat then -3 else -2
theorem nk_ok {f : Int → Int} {a b v : Int} (h : nmR v (nmZ f a (b - a).toNat)) (h1 : ¬ (f a = 48 ∧ 1 < b - a)) (h2 : v ≤ 99) : -2 = nkZ f a b ∧ (nkZ f a b = -2 → v = nmZ f a (b - a).toNat) := by
  rcases h with h | h
  · refine ⟨?_, fun _ => h.2.symm⟩
    unfold nkZ
    rw [if_neg (by omega)]
  · omega
theorem nk_bad {f : Int → Int} {a b v : Int} (h : nmR v (nmZ f a (b - a).toNat)) (h1 : (f a = 48 ∧ 1 < b - a) ∨ 99 < v) : -3 = nkZ f a b ∧ (nkZ f a b = -2 → v = nmZ f a (b - a).toNat) := by
  have h2 : nkZ f a b = -3 := by
    unfold nkZ
    rcases h with h | h <;> rw [if_pos (by omega)]
  exact ⟨h2.symm, fun h3 => by omega⟩
def tkK (f : Int → Int) (n p : Int) : Int :=
  if n ≤ tkS f n p then -1 else if tkS f n p < dgZ f n (tkS f n p) then nkZ f (tkS f n p) (dgZ f n (tkS f n p)) else f (tkS f n p)
def tkE (f : Int → Int) (n p : Int) : Int :=
  if n ≤ tkS f n p then tkS f n p else if tkS f n p < dgZ f n (tkS f n p) then dgZ f n (tkS f n p) else tkS f n p + 1
theorem nmZ_rng {f : Int → Int} {a b : Int} (h : ∀ j : Int, a ≤ j → j < b → 48 ≤ f j ∧ f j ≤ 57) : ∀ k : Nat, a + k ≤ b → 0 ≤ nmZ f a k ∧ nmZ f a k ≤ 100
  | 0, _ => by simp [nmZ]
  | k + 1, hk => by
    have h1 := nmZ_rng h k (by omega)
    have h2 := h (a + k) (by omega) (by omega)
    unfold nmZ
    split <;> omega
theorem tkE_rng {f : Int → Int} {n p : Int} (h : p ≤ n) : tkS f n p ≤ tkE f n p ∧ tkE f n p ≤ n := by
  have h1 := tkS_rng (f := f) h
  have h2 := dgZ_rng (f := f) (n := n) (e := tkS f n p) (by omega)
  unfold tkE
  split
  · omega
  · split <;> omega
theorem tkE_gt {f : Int → Int} {n p : Int} (h : p ≤ n) (hk : ¬ tkK f n p = -1) : tkS f n p < tkE f n p ∧ tkS f n p < n := by
  have h1 := tkS_rng (f := f) h
  unfold tkK at hk
  unfold tkE
  split at hk
  · omega
  · rename_i hc
    rw [if_neg hc]
    split <;> omega
theorem tkK_rng {f : Int → Int} {n p : Int} (hp : 0 ≤ p ∧ p ≤ n) (hf : ∀ i : Int, 0 ≤ i → i < n → 0 ≤ f i ∧ f i ≤ 255) : -3 ≤ tkK f n p ∧ tkK f n p ≤ 255 := by
  have h1 := tkS_rng (f := f) hp.2
  unfold tkK
  split
  · omega
  · split
    · unfold nkZ
      split <;> omega
    · have := hf (tkS f n p) (by omega) (by omega)
      omega
theorem tkV_rng {f : Int → Int} {n p : Int} : 0 ≤ tkV f n p ∧ tkV f n p ≤ 100 := by
  unfold tkV
  by_cases h : tkS f n p ≤ dgZ f n (tkS f n p)
  · exact nmZ_rng (b := dgZ f n (tkS f n p)) (fun j h1 h2 => (dgZ_in h1 h2).2) _ (by omega)
  · rw [show (dgZ f n (tkS f n p) - tkS f n p).toNat = 0 by omega]
    simp [nmZ]

theorem pd_X4_readNumber : yX4_readNumber.cls = RX4 ∧ yX4_readNumber.cls ≠ "java/lang/invoke/MethodHandle" ∧ yX4_readNumber.cls ≠ "java/lang/invoke/VarHandle" ∧ (parseMethodDescriptor yX4_readNumber.desc).map (fun d => d.parameters.length) = some 0 := by decide +kernel
abbrev rmX4_readNumber : Room := { frames := 0, cells := 0, slots := 0, locals := 0 }
set_option maxHeartbeats 4000000 in
set_option maxRecDepth 100000 in
theorem c_X4_readNumber (l : Launch) (G : CX) (hr0 : Nat) (hd0 : Nat) (pl : Int) (be : Int) (to : Int) (nu : Int) (it : Int) (lt : Int) (bt : Int) (hx0 : Nat) (ax : Nat) (tf : Int → Int) (tn : Int) (htn : 0 ≤ tn ∧ tn ≤ 200) (htf : ∀ i : Int, 0 ≤ i → i < tn → 0 ≤ tf i ∧ tf i ≤ 255) (hpb : 0 ≤ pl ∧ pl < be ∧ be ≤ tn) (hdi : ∀ j : Int, pl ≤ j → j < be → 48 ≤ tf j ∧ tf j ≤ 57) : Met l yX4_readNumber wsX4_readNumber rmX4_readNumber (wrP G [.ref hr0] [(hr0, .inr (4, [.ref hx0, .ref hd0, .int (zI pl), .int (zI be), .int (zI to), .int (zI nu), .int (zI it), .int (zI lt), .int (zI bt)])), (hx0, .inr (6, [.ref ax, .int (zI tn)])), (ax, .inl (G.2.1, 200, .inl (aZ tf)))]) (wrV G [(hr0, .inr (4, [.ref hx0, .ref hd0, .int (zI pl), .int (zI be), .int (zI to), .int (zI nu), .int (zI it), .int (zI lt), .int (zI bt)])), (hx0, .inr (6, [.ref ax, .int (zI tn)])), (ax, .inl (G.2.1, 200, .inl (aZ tf)))] (fun (u : Int × Int) => match u with | (to2, nu2) => (to2 = nkZ tf pl be ∧ (nkZ tf pl be = -2 → nu2 = nmZ tf pl (be - pl).toNat))) (fun (u : Int × Int) => match u with | (to2, nu2) => [(hr0, .inr (4, [.ref hx0, .ref hd0, .int (zI pl), .int (zI be), .int (zI to2), .int (zI nu2), .int (zI it), .int (zI lt), .int (zI bt)])), (hx0, .inr (6, [.ref ax, .int (zI tn)])), (ax, .inl (G.2.1, 200, .inl (aZ tf)))])) 0 0 (wrA [(hr0, .inr (4, [.ref hx0, .ref hd0, .int (zI pl), .int (zI be), .int (zI to), .int (zI nu), .int (zI it), .int (zI lt), .int (zI bt)])), (hx0, .inr (6, [.ref ax, .int (zI tn)])), (ax, .inl (G.2.1, 200, .inl (aZ tf)))]) := by
  refine wv_ofW (cc := cX4_readNumber) (maxL := 2) (by decide) rfl (Nat.le_of_ble_eq_true rfl) ?_
  intro p e s m below meth c Q A hx hb hml hown hts hK hret H locs hP hD hS ls hl
  have hown : s.vm.findClass RX4 = some m.cls := hown
  have hl : lv_has ls 2 [(0, .ref hr0)] := hl
  have f68 := hts (.fieldLink RX4 68 "QuarterTurns$Reader" "number" "I") (by decide +kernel)
  have i4 : ∀ w ∈ wsX40, w ∈ wsX4_readNumber := fun w h => List.mem_cons_of_mem _ (List.mem_append_left _ (List.mem_append_right _ h))
  have f49 := hts (.fieldLink RX4 49 "QuarterTurns$Reader" "place" "I") (by decide +kernel)
  have f25 := hts (.fieldLink RX4 25 "QuarterTurns$Reader" "behind" "I") (by decide +kernel)
  have f18 := hts (.fieldLink RX4 18 "QuarterTurns$Reader" "text" "LQuarterTurns$Text;") (by decide +kernel)
  have f57 := hts (.fieldLink RX4 57 "QuarterTurns$Text" "letters" "[I") (by decide +kernel)
  have i6 : ∀ w ∈ wsX60, w ∈ wsX4_readNumber := fun w h => List.mem_cons_of_mem _ (List.mem_append_right _ h)
  have f42 := hts (.fieldLink RX4 42 "QuarterTurns$Reader" "token" "I") (by decide +kernel)
  refine lv_aload_n hx hb dX4_readNumber_0 rfl (lv_at hl 0 rfl) ?_
  refine lv_iconst (v := zI 0) hx hb dX4_readNumber_1 rfl ?_
  refine va_put (ci := 4) (v := .int (zI 0)) (ty := .int) (C := RX4) (T := TX4) (N := 9) hx hb hts i4 tyX4 tyX4_ok nmX4 hown hK hP hD hS 0 rfl rfl 5 (by decide) f68 (fun _ h9 => h9) rfl (tyX4_ok 5 (by decide)) rfl rfl (Nat.le_of_ble_eq_true rfl) dX4_readNumber_2 (fun H locs hP hD hS => ?_)
  have hP : kP G [(hr0, .inr (4, [.ref hx0, .ref hd0, .int (zI pl), .int (zI be), .int (zI to), .int (zI 0), .int (zI it), .int (zI lt), .int (zI bt)])), (hx0, .inr (6, [.ref ax, .int (zI tn)])), (ax, .inl (G.2.1, 200, .inl (aZ tf)))] H := hP
  have hD : va_D A [(hr0, .inr (4, [.ref hx0, .ref hd0, .int (zI pl), .int (zI be), .int (zI to), .int (zI 0), .int (zI it), .int (zI lt), .int (zI bt)])), (hx0, .inr (6, [.ref ax, .int (zI tn)])), (ax, .inl (G.2.1, 200, .inl (aZ tf)))] := hD
  refine lv_aload_n hx hb dX4_readNumber_5 rfl (lv_at hl 0 rfl) ?_
  refine va_get (ci := 4) (v := .int (zI pl)) (C := RX4) (T := TX4) (N := 9) hx hb hts i4 hown hK hP 0 rfl rfl 2 (by decide) f49 (fun _ h9 => h9) rfl dX4_readNumber_6 ?_
  refine lv_istore_n (lv' := [(1, .int (zI pl)), (0, .ref hr0)]) hx hb dX4_readNumber_9 rfl hl (by decide) rfl (fun ls hl => ?_)
  have loop10 : ∀ (n_ : Nat) (i : Int) (nv : Int) (H : Heap) (locs : List Loc) (ls : Array Slot), (pl ≤ i ∧ i ≤ be) → (nmR nv (nmZ tf pl (i - pl).toNat)) → (0 ≤ nv ∧ nv ≤ 999) → (be - i).toNat < n_ → kP G [(hr0, .inr (4, [.ref hx0, .ref hd0, .int (zI pl), .int (zI be), .int (zI to), .int (zI nv), .int (zI it), .int (zI lt), .int (zI bt)])), (hx0, .inr (6, [.ref ax, .int (zI tn)])), (ax, .inl (G.2.1, 200, .inl (aZ tf)))] H → va_D A [(hr0, .inr (4, [.ref hx0, .ref hd0, .int (zI pl), .int (zI be), .int (zI to), .int (zI nv), .int (zI it), .int (zI lt), .int (zI bt)])), (hx0, .inr (6, [.ref ax, .int (zI tn)])), (ax, .inl (G.2.1, 200, .inl (aZ tf)))] → va_S A s.heap H locs → lv_has ls 2 [(1, .int (zI i)), (0, .ref hr0)] → W p l e rmX4_readNumber s m ([.ref hr0] : List Value).toArray below meth c H locs 0 0 Q (F0 m 10 ls []) := by
    intro n_
    induction n_ with
    | zero =>
      intro i nv H locs ls hi hnv hnr hm
      exact absurd hm (Nat.not_lt_zero _)
    | succ n_ ih10 =>
      intro i nv H locs ls hi hnv hnr hm10 hP hD hS hl
      refine lv_iload_n hx hb dX4_readNumber_10 rfl (lv_at hl 0 rfl) ?_
      refine lv_aload_n hx hb dX4_readNumber_11 rfl (lv_at hl 1 rfl) ?_
      refine va_get (ci := 4) (v := .int (zI be)) (C := RX4) (T := TX4) (N := 9) hx hb hts i4 hown hK hP 0 rfl rfl 3 (by decide) f25 (fun _ h9 => h9) rfl dX4_readNumber_12 ?_
      refine z_icmp_ge (tgt := 57) hx hb (by omega) dX4_readNumber_15 (by decide) (fun c_1 => ?_) (fun c_1 => ?_)
      · have hnw := nmR_fin hdi hi hnv (by omega)
        refine lv_aload_n hx hb dX4_readNumber_57 rfl (lv_at hl 1 rfl) ?_
        refine va_get (ci := 4) (v := .ref hx0) (C := RX4) (T := TX4) (N := 9) hx hb hts i4 hown hK hP 0 rfl rfl 0 (by decide) f18 (fun _ h9 => h9) rfl dX4_readNumber_58 ?_
        refine va_get (ci := 6) (v := .ref ax) (C := RX6) (T := TX6) (N := 2) hx hb hts i6 hown hK hP 1 rfl rfl 0 (by decide) f57 (fun _ h9 => h9) rfl dX4_readNumber_61 ?_
        refine lv_aload_n hx hb dX4_readNumber_64 rfl (lv_at hl 1 rfl) ?_
        refine va_get (ci := 4) (v := .int (zI pl)) (C := RX4) (T := TX4) (N := 9) hx hb hts i4 hown hK hP 0 rfl rfl 2 (by decide) f49 (fun _ h9 => h9) rfl dX4_readNumber_65 ?_
        refine z_iald (n := 200) (f := tf) hx hb hK hP 2 rfl (by omega) dX4_readNumber_68 ?_
        have he_2 := htf pl (by omega) (by omega)
        refine lv_bipush (v := zI 48) hx hb dX4_readNumber_69 (by decide) ?_
        refine z_icmp_ne (tgt := 91) hx hb (by omega) dX4_readNumber_71 (by decide) (fun c_3 => ?_) (fun c_3 => ?_)
        · refine lv_iconst (v := zI 0) hx hb dX4_readNumber_91 rfl ?_
          refine lv_istore_n (lv' := [(1, .int (zI 0)), (0, .ref hr0)]) hx hb dX4_readNumber_92 rfl hl (by decide) rfl (fun ls hl => ?_)
          refine lv_aload_n hx hb dX4_readNumber_93 rfl (lv_at hl 1 rfl) ?_
          refine lv_iload_n hx hb dX4_readNumber_94 rfl (lv_at hl 0 rfl) ?_
          refine z_if_ne (tgt := 107) hx hb (by omega) dX4_readNumber_95 (by decide) (fun c_4 => ?_) (fun c_4 => ?_)
          · exact absurd c_4 (by omega)
          · refine lv_aload_n hx hb dX4_readNumber_98 rfl (lv_at hl 1 rfl) ?_
            refine va_get (ci := 4) (v := .int (zI nv)) (C := RX4) (T := TX4) (N := 9) hx hb hts i4 hown hK hP 0 rfl rfl 5 (by decide) f68 (fun _ h9 => h9) rfl dX4_readNumber_99 ?_
            refine lv_bipush (v := zI 99) hx hb dX4_readNumber_102 (by decide) ?_
            refine z_icmp_le (tgt := 112) hx hb (by omega) dX4_readNumber_104 (by decide) (fun c_5 => ?_) (fun c_5 => ?_)
            · refine lv_bipush (v := zI (-2)) hx hb dX4_readNumber_112 (by decide) ?_
              refine va_put (ci := 4) (v := .int (zI (-2))) (ty := .int) (C := RX4) (T := TX4) (N := 9) hx hb hts i4 tyX4 tyX4_ok nmX4 hown hK hP hD hS 0 rfl rfl 4 (by decide) f42 (fun _ h9 => h9) rfl (tyX4_ok 4 (by decide)) rfl rfl (Nat.le_of_ble_eq_true rfl) dX4_readNumber_114 (fun H locs hP hD hS => ?_)
              have hP : kP G [(hr0, .inr (4, [.ref hx0, .ref hd0, .int (zI pl), .int (zI be), .int (zI (-2)), .int (zI nv), .int (zI it), .int (zI lt), .int (zI bt)])), (hx0, .inr (6, [.ref ax, .int (zI tn)])), (ax, .inl (G.2.1, 200, .inl (aZ tf)))] H := hP
              have hD : va_D A [(hr0, .inr (4, [.ref hx0, .ref hd0, .int (zI pl), .int (zI be), .int (zI (-2)), .int (zI nv), .int (zI it), .int (zI lt), .int (zI bt)])), (hx0, .inr (6, [.ref ax, .int (zI tn)])), (ax, .inl (G.2.1, 200, .inl (aZ tf)))] := hD
              exact hret H locs ls 117 ((-2), nv) (by first | exact nk_ok hnw (by omega) (by omega) | exact nk_bad hnw (by omega)) hP hS dX4_readNumber_117
            · refine lv_bipush (v := zI (-3)) hx hb dX4_readNumber_107 (by decide) ?_
              refine lv_goto (tgt := 114) hx hb dX4_readNumber_109 (by decide) ?_
              refine va_put (ci := 4) (v := .int (zI (-3))) (ty := .int) (C := RX4) (T := TX4) (N := 9) hx hb hts i4 tyX4 tyX4_ok nmX4 hown hK hP hD hS 0 rfl rfl 4 (by decide) f42 (fun _ h9 => h9) rfl (tyX4_ok 4 (by decide)) rfl rfl (Nat.le_of_ble_eq_true rfl) dX4_readNumber_114 (fun H locs hP hD hS => ?_)
              have hP : kP G [(hr0, .inr (4, [.ref hx0, .ref hd0, .int (zI pl), .int (zI be), .int (zI (-3)), .int (zI nv), .int (zI it), .int (zI lt), .int (zI bt)])), (hx0, .inr (6, [.ref ax, .int (zI tn)])), (ax, .inl (G.2.1, 200, .inl (aZ tf)))] H := hP
              have hD : va_D A [(hr0, .inr (4, [.ref hx0, .ref hd0, .int (zI pl), .int (zI be), .int (zI (-3)), .int (zI nv), .int (zI it), .int (zI lt), .int (zI bt)])), (hx0, .inr (6, [.ref ax, .int (zI tn)])), (ax, .inl (G.2.1, 200, .inl (aZ tf)))] := hD
              exact hret H locs ls 117 ((-3), nv) (by first | exact nk_ok hnw (by omega) (by omega) | exact nk_bad hnw (by omega)) hP hS dX4_readNumber_117
        · refine lv_aload_n hx hb dX4_readNumber_74 rfl (lv_at hl 1 rfl) ?_
          refine va_get (ci := 4) (v := .int (zI be)) (C := RX4) (T := TX4) (N := 9) hx hb hts i4 hown hK hP 0 rfl rfl 3 (by decide) f25 (fun _ h9 => h9) rfl dX4_readNumber_75 ?_
          refine lv_aload_n hx hb dX4_readNumber_78 rfl (lv_at hl 1 rfl) ?_
          refine va_get (ci := 4) (v := .int (zI pl)) (C := RX4) (T := TX4) (N := 9) hx hb hts i4 hown hK hP 0 rfl rfl 2 (by decide) f49 (fun _ h9 => h9) rfl dX4_readNumber_79 ?_
          refine z_isub hx hb dX4_readNumber_82 ?_
          refine lv_iconst (v := zI 1) hx hb dX4_readNumber_83 rfl ?_
          refine z_icmp_le (tgt := 91) hx hb (by omega) dX4_readNumber_84 (by decide) (fun c_6 => ?_) (fun c_6 => ?_)
          · refine lv_iconst (v := zI 0) hx hb dX4_readNumber_91 rfl ?_
            refine lv_istore_n (lv' := [(1, .int (zI 0)), (0, .ref hr0)]) hx hb dX4_readNumber_92 rfl hl (by decide) rfl (fun ls hl => ?_)
            refine lv_aload_n hx hb dX4_readNumber_93 rfl (lv_at hl 1 rfl) ?_
            refine lv_iload_n hx hb dX4_readNumber_94 rfl (lv_at hl 0 rfl) ?_
            refine z_if_ne (tgt := 107) hx hb (by omega) dX4_readNumber_95 (by decide) (fun c_7 => ?_) (fun c_7 => ?_)
            · exact absurd c_7 (by omega)
            · refine lv_aload_n hx hb dX4_readNumber_98 rfl (lv_at hl 1 rfl) ?_
              refine va_get (ci := 4) (v := .int (zI nv)) (C := RX4) (T := TX4) (N := 9) hx hb hts i4 hown hK hP 0 rfl rfl 5 (by decide) f68 (fun _ h9 => h9) rfl dX4_readNumber_99 ?_
              refine lv_bipush (v := zI 99) hx hb dX4_readNumber_102 (by decide) ?_
              refine z_icmp_le (tgt := 112) hx hb (by omega) dX4_readNumber_104 (by decide) (fun c_8 => ?_) (fun c_8 => ?_)
              · refine lv_bipush (v := zI (-2)) hx hb dX4_readNumber_112 (by decide) ?_
                refine va_put (ci := 4) (v := .int (zI (-2))) (ty := .int) (C := RX4) (T := TX4) (N := 9) hx hb hts i4 tyX4 tyX4_ok nmX4 hown hK hP hD hS 0 rfl rfl 4 (by decide) f42 (fun _ h9 => h9) rfl (tyX4_ok 4 (by decide)) rfl rfl (Nat.le_of_ble_eq_true rfl) dX4_readNumber_114 (fun H locs hP hD hS => ?_)
                have hP : kP G [(hr0, .inr (4, [.ref hx0, .ref hd0, .int (zI pl), .int (zI be), .int (zI (-2)), .int (zI nv), .int (zI it), .int (zI lt), .int (zI bt)])), (hx0, .inr (6, [.ref ax, .int (zI tn)])), (ax, .inl (G.2.1, 200, .inl (aZ tf)))] H := hP
                have hD : va_D A [(hr0, .inr (4, [.ref hx0, .ref hd0, .int (zI pl), .int (zI be), .int (zI (-2)), .int (zI nv), .int (zI it), .int (zI lt), .int (zI bt)])), (hx0, .inr (6, [.ref ax, .int (zI tn)])), (ax, .inl (G.2.1, 200, .inl (aZ tf)))] := hD
                exact hret H locs ls 117 ((-2), nv) (by first | exact nk_ok hnw (by omega) (by omega) | exact nk_bad hnw (by omega)) hP hS dX4_readNumber_117
              · refine lv_bipush (v := zI (-3)) hx hb dX4_readNumber_107 (by decide) ?_
                refine lv_goto (tgt := 114) hx hb dX4_readNumber_109 (by decide) ?_
                refine va_put (ci := 4) (v := .int (zI (-3))) (ty := .int) (C := RX4) (T := TX4) (N := 9) hx hb hts i4 tyX4 tyX4_ok nmX4 hown hK hP hD hS 0 rfl rfl 4 (by decide) f42 (fun _ h9 => h9) rfl (tyX4_ok 4 (by decide)) rfl rfl (Nat.le_of_ble_eq_true rfl) dX4_readNumber_114 (fun H locs hP hD hS => ?_)
                have hP : kP G [(hr0, .inr (4, [.ref hx0, .ref hd0, .int (zI pl), .int (zI be), .int (zI (-3)), .int (zI nv), .int (zI it), .int (zI lt), .int (zI bt)])), (hx0, .inr (6, [.ref ax, .int (zI tn)])), (ax, .inl (G.2.1, 200, .inl (aZ tf)))] H := hP
                have hD : va_D A [(hr0, .inr (4, [.ref hx0, .ref hd0, .int (zI pl), .int (zI be), .int (zI (-3)), .int (zI nv), .int (zI it), .int (zI lt), .int (zI bt)])), (hx0, .inr (6, [.ref ax, .int (zI tn)])), (ax, .inl (G.2.1, 200, .inl (aZ tf)))] := hD
                exact hret H locs ls 117 ((-3), nv) (by first | exact nk_ok hnw (by omega) (by omega) | exact nk_bad hnw (by omega)) hP hS dX4_readNumber_117
          · refine lv_iconst (v := zI 1) hx hb dX4_readNumber_87 rfl ?_
            refine lv_goto (tgt := 92) hx hb dX4_readNumber_88 (by decide) ?_
            refine lv_istore_n (lv' := [(1, .int (zI 1)), (0, .ref hr0)]) hx hb dX4_readNumber_92 rfl hl (by decide) rfl (fun ls hl => ?_)
            refine lv_aload_n hx hb dX4_readNumber_93 rfl (lv_at hl 1 rfl) ?_
            refine lv_iload_n hx hb dX4_readNumber_94 rfl (lv_at hl 0 rfl) ?_
            refine z_if_ne (tgt := 107) hx hb (by omega) dX4_readNumber_95 (by decide) (fun c_9 => ?_) (fun c_9 => ?_)
            · refine lv_bipush (v := zI (-3)) hx hb dX4_readNumber_107 (by decide) ?_
              refine lv_goto (tgt := 114) hx hb dX4_readNumber_109 (by decide) ?_
              refine va_put (ci := 4) (v := .int (zI (-3))) (ty := .int) (C := RX4) (T := TX4) (N := 9) hx hb hts i4 tyX4 tyX4_ok nmX4 hown hK hP hD hS 0 rfl rfl 4 (by decide) f42 (fun _ h9 => h9) rfl (tyX4_ok 4 (by decide)) rfl rfl (Nat.le_of_ble_eq_true rfl) dX4_readNumber_114 (fun H locs hP hD hS => ?_)
              have hP : kP G [(hr0, .inr (4, [.ref hx0, .ref hd0, .int (zI pl), .int (zI be), .int (zI (-3)), .int (zI nv), .int (zI it), .int (zI lt), .int (zI bt)])), (hx0, .inr (6, [.ref ax, .int (zI tn)])), (ax, .inl (G.2.1, 200, .inl (aZ tf)))] H := hP
              have hD : va_D A [(hr0, .inr (4, [.ref hx0, .ref hd0, .int (zI pl), .int (zI be), .int (zI (-3)), .int (zI nv), .int (zI it), .int (zI lt), .int (zI bt)])), (hx0, .inr (6, [.ref ax, .int (zI tn)])), (ax, .inl (G.2.1, 200, .inl (aZ tf)))] := hD
              exact hret H locs ls 117 ((-3), nv) (by first | exact nk_ok hnw (by omega) (by omega) | exact nk_bad hnw (by omega)) hP hS dX4_readNumber_117
            · exact absurd c_9 (by omega)
      · refine lv_aload_n hx hb dX4_readNumber_18 rfl (lv_at hl 1 rfl) ?_
        refine va_get (ci := 4) (v := .int (zI nv)) (C := RX4) (T := TX4) (N := 9) hx hb hts i4 hown hK hP 0 rfl rfl 5 (by decide) f68 (fun _ h9 => h9) rfl dX4_readNumber_19 ?_
        refine lv_bipush (v := zI 99) hx hb dX4_readNumber_22 (by decide) ?_
        refine z_icmp_gt (tgt := 57) hx hb (by omega) dX4_readNumber_24 (by decide) (fun c_10 => ?_) (fun c_10 => ?_)
        · have hnw := nmR_fin hdi hi hnv (by omega)
          refine lv_aload_n hx hb dX4_readNumber_57 rfl (lv_at hl 1 rfl) ?_
          refine va_get (ci := 4) (v := .ref hx0) (C := RX4) (T := TX4) (N := 9) hx hb hts i4 hown hK hP 0 rfl rfl 0 (by decide) f18 (fun _ h9 => h9) rfl dX4_readNumber_58 ?_
          refine va_get (ci := 6) (v := .ref ax) (C := RX6) (T := TX6) (N := 2) hx hb hts i6 hown hK hP 1 rfl rfl 0 (by decide) f57 (fun _ h9 => h9) rfl dX4_readNumber_61 ?_
          refine lv_aload_n hx hb dX4_readNumber_64 rfl (lv_at hl 1 rfl) ?_
          refine va_get (ci := 4) (v := .int (zI pl)) (C := RX4) (T := TX4) (N := 9) hx hb hts i4 hown hK hP 0 rfl rfl 2 (by decide) f49 (fun _ h9 => h9) rfl dX4_readNumber_65 ?_
          refine z_iald (n := 200) (f := tf) hx hb hK hP 2 rfl (by omega) dX4_readNumber_68 ?_
          have he_11 := htf pl (by omega) (by omega)
          refine lv_bipush (v := zI 48) hx hb dX4_readNumber_69 (by decide) ?_
          refine z_icmp_ne (tgt := 91) hx hb (by omega) dX4_readNumber_71 (by decide) (fun c_12 => ?_) (fun c_12 => ?_)
          · refine lv_iconst (v := zI 0) hx hb dX4_readNumber_91 rfl ?_
            refine lv_istore_n (lv' := [(1, .int (zI 0)), (0, .ref hr0)]) hx hb dX4_readNumber_92 rfl hl (by decide) rfl (fun ls hl => ?_)
            refine lv_aload_n hx hb dX4_readNumber_93 rfl (lv_at hl 1 rfl) ?_
            refine lv_iload_n hx hb dX4_readNumber_94 rfl (lv_at hl 0 rfl) ?_
            refine z_if_ne (tgt := 107) hx hb (by omega) dX4_readNumber_95 (by decide) (fun c_13 => ?_) (fun c_13 => ?_)
            · exact absurd c_13 (by omega)
            · refine lv_aload_n hx hb dX4_readNumber_98 rfl (lv_at hl 1 rfl) ?_
              refine va_get (ci := 4) (v := .int (zI nv)) (C := RX4) (T := TX4) (N := 9) hx hb hts i4 hown hK hP 0 rfl rfl 5 (by decide) f68 (fun _ h9 => h9) rfl dX4_readNumber_99 ?_
              refine lv_bipush (v := zI 99) hx hb dX4_readNumber_102 (by decide) ?_
              refine z_icmp_le (tgt := 112) hx hb (by omega) dX4_readNumber_104 (by decide) (fun c_14 => ?_) (fun c_14 => ?_)
              · refine lv_bipush (v := zI (-2)) hx hb dX4_readNumber_112 (by decide) ?_
                refine va_put (ci := 4) (v := .int (zI (-2))) (ty := .int) (C := RX4) (T := TX4) (N := 9) hx hb hts i4 tyX4 tyX4_ok nmX4 hown hK hP hD hS 0 rfl rfl 4 (by decide) f42 (fun _ h9 => h9) rfl (tyX4_ok 4 (by decide)) rfl rfl (Nat.le_of_ble_eq_true rfl) dX4_readNumber_114 (fun H locs hP hD hS => ?_)
                have hP : kP G [(hr0, .inr (4, [.ref hx0, .ref hd0, .int (zI pl), .int (zI be), .int (zI (-2)), .int (zI nv), .int (zI it), .int (zI lt), .int (zI bt)])), (hx0, .inr (6, [.ref ax, .int (zI tn)])), (ax, .inl (G.2.1, 200, .inl (aZ tf)))] H := hP
                have hD : va_D A [(hr0, .inr (4, [.ref hx0, .ref hd0, .int (zI pl), .int (zI be), .int (zI (-2)), .int (zI nv), .int (zI it), .int (zI lt), .int (zI bt)])), (hx0, .inr (6, [.ref ax, .int (zI tn)])), (ax, .inl (G.2.1, 200, .inl (aZ tf)))] := hD
                exact hret H locs ls 117 ((-2), nv) (by first | exact nk_ok hnw (by omega) (by omega) | exact nk_bad hnw (by omega)) hP hS dX4_readNumber_117
              · refine lv_bipush (v := zI (-3)) hx hb dX4_readNumber_107 (by decide) ?_
                refine lv_goto (tgt := 114) hx hb dX4_readNumber_109 (by decide) ?_
                refine va_put (ci := 4) (v := .int (zI (-3))) (ty := .int) (C := RX4) (T := TX4) (N := 9) hx hb hts i4 tyX4 tyX4_ok nmX4 hown hK hP hD hS 0 rfl rfl 4 (by decide) f42 (fun _ h9 => h9) rfl (tyX4_ok 4 (by decide)) rfl rfl (Nat.le_of_ble_eq_true rfl) dX4_readNumber_114 (fun H locs hP hD hS => ?_)
                have hP : kP G [(hr0, .inr (4, [.ref hx0, .ref hd0, .int (zI pl), .int (zI be), .int (zI (-3)), .int (zI nv), .int (zI it), .int (zI lt), .int (zI bt)])), (hx0, .inr (6, [.ref ax, .int (zI tn)])), (ax, .inl (G.2.1, 200, .inl (aZ tf)))] H := hP
                have hD : va_D A [(hr0, .inr (4, [.ref hx0, .ref hd0, .int (zI pl), .int (zI be), .int (zI (-3)), .int (zI nv), .int (zI it), .int (zI lt), .int (zI bt)])), (hx0, .inr (6, [.ref ax, .int (zI tn)])), (ax, .inl (G.2.1, 200, .inl (aZ tf)))] := hD
                exact hret H locs ls 117 ((-3), nv) (by first | exact nk_ok hnw (by omega) (by omega) | exact nk_bad hnw (by omega)) hP hS dX4_readNumber_117
          · refine lv_aload_n hx hb dX4_readNumber_74 rfl (lv_at hl 1 rfl) ?_
            refine va_get (ci := 4) (v := .int (zI be)) (C := RX4) (T := TX4) (N := 9) hx hb hts i4 hown hK hP 0 rfl rfl 3 (by decide) f25 (fun _ h9 => h9) rfl dX4_readNumber_75 ?_
            refine lv_aload_n hx hb dX4_readNumber_78 rfl (lv_at hl 1 rfl) ?_
            refine va_get (ci := 4) (v := .int (zI pl)) (C := RX4) (T := TX4) (N := 9) hx hb hts i4 hown hK hP 0 rfl rfl 2 (by decide) f49 (fun _ h9 => h9) rfl dX4_readNumber_79 ?_
            refine z_isub hx hb dX4_readNumber_82 ?_
            refine lv_iconst (v := zI 1) hx hb dX4_readNumber_83 rfl ?_
            refine z_icmp_le (tgt := 91) hx hb (by omega) dX4_readNumber_84 (by decide) (fun c_15 => ?_) (fun c_15 => ?_)
            · refine lv_iconst (v := zI 0) hx hb dX4_readNumber_91 rfl ?_
              refine lv_istore_n (lv' := [(1, .int (zI 0)), (0, .ref hr0)]) hx hb dX4_readNumber_92 rfl hl (by decide) rfl (fun ls hl => ?_)
              refine lv_aload_n hx hb dX4_readNumber_93 rfl (lv_at hl 1 rfl) ?_
              refine lv_iload_n hx hb dX4_readNumber_94 rfl (lv_at hl 0 rfl) ?_
              refine z_if_ne (tgt := 107) hx hb (by omega) dX4_readNumber_95 (by decide) (fun c_16 => ?_) (fun c_16 => ?_)
              · exact absurd c_16 (by omega)
              · refine lv_aload_n hx hb dX4_readNumber_98 rfl (lv_at hl 1 rfl) ?_
                refine va_get (ci := 4) (v := .int (zI nv)) (C := RX4) (T := TX4) (N := 9) hx hb hts i4 hown hK hP 0 rfl rfl 5 (by decide) f68 (fun _ h9 => h9) rfl dX4_readNumber_99 ?_
                refine lv_bipush (v := zI 99) hx hb dX4_readNumber_102 (by decide) ?_
                refine z_icmp_le (tgt := 112) hx hb (by omega) dX4_readNumber_104 (by decide) (fun c_17 => ?_) (fun c_17 => ?_)
                · refine lv_bipush (v := zI (-2)) hx hb dX4_readNumber_112 (by decide) ?_
                  refine va_put (ci := 4) (v := .int (zI (-2))) (ty := .int) (C := RX4) (T := TX4) (N := 9) hx hb hts i4 tyX4 tyX4_ok nmX4 hown hK hP hD hS 0 rfl rfl 4 (by decide) f42 (fun _ h9 => h9) rfl (tyX4_ok 4 (by decide)) rfl rfl (Nat.le_of_ble_eq_true rfl) dX4_readNumber_114 (fun H locs hP hD hS => ?_)
                  have hP : kP G [(hr0, .inr (4, [.ref hx0, .ref hd0, .int (zI pl), .int (zI be), .int (zI (-2)), .int (zI nv), .int (zI it), .int (zI lt), .int (zI bt)])), (hx0, .inr (6, [.ref ax, .int (zI tn)])), (ax, .inl (G.2.1, 200, .inl (aZ tf)))] H := hP
                  have hD : va_D A [(hr0, .inr (4, [.ref hx0, .ref hd0, .int (zI pl), .int (zI be), .int (zI (-2)), .int (zI nv), .int (zI it), .int (zI lt), .int (zI bt)])), (hx0, .inr (6, [.ref ax, .int (zI tn)])), (ax, .inl (G.2.1, 200, .inl (aZ tf)))] := hD
                  exact hret H locs ls 117 ((-2), nv) (by first | exact nk_ok hnw (by omega) (by omega) | exact nk_bad hnw (by omega)) hP hS dX4_readNumber_117
                · refine lv_bipush (v := zI (-3)) hx hb dX4_readNumber_107 (by decide) ?_
                  refine lv_goto (tgt := 114) hx hb dX4_readNumber_109 (by decide) ?_
                  refine va_put (ci := 4) (v := .int (zI (-3))) (ty := .int) (C := RX4) (T := TX4) (N := 9) hx hb hts i4 tyX4 tyX4_ok nmX4 hown hK hP hD hS 0 rfl rfl 4 (by decide) f42 (fun _ h9 => h9) rfl (tyX4_ok 4 (by decide)) rfl rfl (Nat.le_of_ble_eq_true rfl) dX4_readNumber_114 (fun H locs hP hD hS => ?_)
                  have hP : kP G [(hr0, .inr (4, [.ref hx0, .ref hd0, .int (zI pl), .int (zI be), .int (zI (-3)), .int (zI nv), .int (zI it), .int (zI lt), .int (zI bt)])), (hx0, .inr (6, [.ref ax, .int (zI tn)])), (ax, .inl (G.2.1, 200, .inl (aZ tf)))] H := hP
                  have hD : va_D A [(hr0, .inr (4, [.ref hx0, .ref hd0, .int (zI pl), .int (zI be), .int (zI (-3)), .int (zI nv), .int (zI it), .int (zI lt), .int (zI bt)])), (hx0, .inr (6, [.ref ax, .int (zI tn)])), (ax, .inl (G.2.1, 200, .inl (aZ tf)))] := hD
                  exact hret H locs ls 117 ((-3), nv) (by first | exact nk_ok hnw (by omega) (by omega) | exact nk_bad hnw (by omega)) hP hS dX4_readNumber_117
            · refine lv_iconst (v := zI 1) hx hb dX4_readNumber_87 rfl ?_
              refine lv_goto (tgt := 92) hx hb dX4_readNumber_88 (by decide) ?_
              refine lv_istore_n (lv' := [(1, .int (zI 1)), (0, .ref hr0)]) hx hb dX4_readNumber_92 rfl hl (by decide) rfl (fun ls hl => ?_)
              refine lv_aload_n hx hb dX4_readNumber_93 rfl (lv_at hl 1 rfl) ?_
              refine lv_iload_n hx hb dX4_readNumber_94 rfl (lv_at hl 0 rfl) ?_
              refine z_if_ne (tgt := 107) hx hb (by omega) dX4_readNumber_95 (by decide) (fun c_18 => ?_) (fun c_18 => ?_)
              · refine lv_bipush (v := zI (-3)) hx hb dX4_readNumber_107 (by decide) ?_
                refine lv_goto (tgt := 114) hx hb dX4_readNumber_109 (by decide) ?_
                refine va_put (ci := 4) (v := .int (zI (-3))) (ty := .int) (C := RX4) (T := TX4) (N := 9) hx hb hts i4 tyX4 tyX4_ok nmX4 hown hK hP hD hS 0 rfl rfl 4 (by decide) f42 (fun _ h9 => h9) rfl (tyX4_ok 4 (by decide)) rfl rfl (Nat.le_of_ble_eq_true rfl) dX4_readNumber_114 (fun H locs hP hD hS => ?_)
                have hP : kP G [(hr0, .inr (4, [.ref hx0, .ref hd0, .int (zI pl), .int (zI be), .int (zI (-3)), .int (zI nv), .int (zI it), .int (zI lt), .int (zI bt)])), (hx0, .inr (6, [.ref ax, .int (zI tn)])), (ax, .inl (G.2.1, 200, .inl (aZ tf)))] H := hP
                have hD : va_D A [(hr0, .inr (4, [.ref hx0, .ref hd0, .int (zI pl), .int (zI be), .int (zI (-3)), .int (zI nv), .int (zI it), .int (zI lt), .int (zI bt)])), (hx0, .inr (6, [.ref ax, .int (zI tn)])), (ax, .inl (G.2.1, 200, .inl (aZ tf)))] := hD
                exact hret H locs ls 117 ((-3), nv) (by first | exact nk_ok hnw (by omega) (by omega) | exact nk_bad hnw (by omega)) hP hS dX4_readNumber_117
              · exact absurd c_18 (by omega)
        · refine lv_aload_n hx hb dX4_readNumber_27 rfl (lv_at hl 1 rfl) ?_
          refine lv_bipush (v := zI 10) hx hb dX4_readNumber_28 (by decide) ?_
          refine lv_aload_n hx hb dX4_readNumber_30 rfl (lv_at hl 1 rfl) ?_
          refine va_get (ci := 4) (v := .int (zI nv)) (C := RX4) (T := TX4) (N := 9) hx hb hts i4 hown hK hP 0 rfl rfl 5 (by decide) f68 (fun _ h9 => h9) rfl dX4_readNumber_31 ?_
          refine z_imul hx hb dX4_readNumber_34 ?_
          refine lv_aload_n hx hb dX4_readNumber_35 rfl (lv_at hl 1 rfl) ?_
          refine va_get (ci := 4) (v := .ref hx0) (C := RX4) (T := TX4) (N := 9) hx hb hts i4 hown hK hP 0 rfl rfl 0 (by decide) f18 (fun _ h9 => h9) rfl dX4_readNumber_36 ?_
          refine va_get (ci := 6) (v := .ref ax) (C := RX6) (T := TX6) (N := 2) hx hb hts i6 hown hK hP 1 rfl rfl 0 (by decide) f57 (fun _ h9 => h9) rfl dX4_readNumber_39 ?_
          refine lv_iload_n hx hb dX4_readNumber_42 rfl (lv_at hl 0 rfl) ?_
          refine z_iald (n := 200) (f := tf) hx hb hK hP 2 rfl (by omega) dX4_readNumber_43 ?_
          have he_19 := htf i (by omega) (by omega)
          have hdj := hdi i (by omega) (by omega)
          refine z_iadd hx hb dX4_readNumber_44 ?_
          refine lv_bipush (v := zI 48) hx hb dX4_readNumber_45 (by decide) ?_
          refine z_isub hx hb dX4_readNumber_47 ?_
          refine va_put (ci := 4) (v := .int (zI (((10 * nv) + (tf i)) - 48))) (ty := .int) (C := RX4) (T := TX4) (N := 9) hx hb hts i4 tyX4 tyX4_ok nmX4 hown hK hP hD hS 0 rfl rfl 5 (by decide) f68 (fun _ h9 => h9) rfl (tyX4_ok 5 (by decide)) rfl rfl (Nat.le_of_ble_eq_true rfl) dX4_readNumber_48 (fun H locs hP hD hS => ?_)
          have hP : kP G [(hr0, .inr (4, [.ref hx0, .ref hd0, .int (zI pl), .int (zI be), .int (zI to), .int (zI (((10 * nv) + (tf i)) - 48)), .int (zI it), .int (zI lt), .int (zI bt)])), (hx0, .inr (6, [.ref ax, .int (zI tn)])), (ax, .inl (G.2.1, 200, .inl (aZ tf)))] H := hP
          have hD : va_D A [(hr0, .inr (4, [.ref hx0, .ref hd0, .int (zI pl), .int (zI be), .int (zI to), .int (zI (((10 * nv) + (tf i)) - 48)), .int (zI it), .int (zI lt), .int (zI bt)])), (hx0, .inr (6, [.ref ax, .int (zI tn)])), (ax, .inl (G.2.1, 200, .inl (aZ tf)))] := hD
          refine lv_iinc (v := zI (i + 1)) (lv' := [(1, .int (zI (i + 1))), (0, .ref hr0)]) hx hb dX4_readNumber_51 hl (k := 0) rfl (zI_add _ _) (by decide) rfl (fun ls hl => ?_)
          refine lv_goto (tgt := 10) hx hb dX4_readNumber_54 (by decide) ?_
          exact ih10 (i + 1) (((10 * nv) + (tf i)) - 48) H locs ls (by omega) (by exact nmR_step hdj hi.1 (by omega) hnv) (by omega) (by omega) hP hD hS (lv_sub hl [0, 1] rfl)
  exact loop10 _ pl 0 H locs ls (by omega) (by rw [show (pl - pl).toNat = 0 by omega]; exact Or.inl ⟨by omega, rfl⟩) (by omega) (Nat.lt_succ_self _) hP hD hS (lv_sub hl [0, 1] rfl)

theorem stp1 {f : Int → Int} {n be q nu : Int} (h : tkS f n be = q) (h1 : n ≤ q) : q = tkS f n be ∧ dgZ f n q = tkE f n be ∧ -1 = tkK f n be ∧ (tkK f n be = -2 → nu = tkV f n be) := by
  have e1 : tkE f n be = q := by unfold tkE; rw [h, if_pos h1]
  have e2 : tkK f n be = -1 := by unfold tkK; rw [h, if_pos h1]
  refine ⟨h.symm, ?_, e2.symm, fun h3 => ?_⟩
  · rw [e1, dgE_stop (by omega)]
  · omega
theorem stp2 {f : Int → Int} {n be q nu : Int} (h : tkS f n be = q) (h1 : q < n) (h2 : q < dgZ f n q) (h4 : nkZ f q (dgZ f n q) = -2 → nu = nmZ f q (dgZ f n q - q).toNat) : q = tkS f n be ∧ dgZ f n q = tkE f n be ∧ nkZ f q (dgZ f n q) = tkK f n be ∧ (tkK f n be = -2 → nu = tkV f n be) := by
  have e2 : nkZ f q (dgZ f n q) = tkK f n be := by unfold tkK; rw [h, if_neg (by omega), if_pos h2]
  refine ⟨h.symm, ?_, e2, fun h5 => ?_⟩
  · unfold tkE; rw [h, if_neg (by omega), if_pos h2]
  · unfold tkV; rw [h]; exact h4 (e2.trans h5)
theorem stp3 {f : Int → Int} {n be q nu : Int} (h : tkS f n be = q) (h1 : q < n) (h2 : dgZ f n q = q) (h3 : 0 ≤ f q) : q = tkS f n be ∧ dgZ f n q + 1 = tkE f n be ∧ f q = tkK f n be ∧ (tkK f n be = -2 → nu = tkV f n be) := by
  have e2 : tkK f n be = f q := by unfold tkK; rw [h, if_neg (by omega), if_neg (by omega)]
  refine ⟨h.symm, ?_, e2.symm, fun h4 => by omega⟩
  unfold tkE; rw [h, if_neg (by omega), if_neg (by omega), h2]

theorem pd_X4_step : yX4_step.cls = RX4 ∧ yX4_step.cls ≠ "java/lang/invoke/MethodHandle" ∧ yX4_step.cls ≠ "java/lang/invoke/VarHandle" ∧ (parseMethodDescriptor yX4_step.desc).map (fun d => d.parameters.length) = some 0 := by decide +kernel
abbrev rmX4_step : Room := { frames := 1, cells := 0, slots := 0, locals := 22 }
set_option maxHeartbeats 4000000 in
set_option maxRecDepth 100000 in
theorem c_X4_step (l : Launch) (G : CX) (hr0 : Nat) (hd0 : Nat) (pl : Int) (be : Int) (to : Int) (nu : Int) (it : Int) (lt : Int) (bt : Int) (hx0 : Nat) (ax : Nat) (tf : Int → Int) (tn : Int) (htn : 0 ≤ tn ∧ tn ≤ 200) (htf : ∀ i : Int, 0 ≤ i → i < tn → 0 ≤ tf i ∧ tf i ≤ 255) (hbe : 0 ≤ be ∧ be ≤ tn) : Met l yX4_step wsX4_step rmX4_step (wrP G [.ref hr0] [(hr0, .inr (4, [.ref hx0, .ref hd0, .int (zI pl), .int (zI be), .int (zI to), .int (zI nu), .int (zI it), .int (zI lt), .int (zI bt)])), (hx0, .inr (6, [.ref ax, .int (zI tn)])), (ax, .inl (G.2.1, 200, .inl (aZ tf)))]) (wrV G [(hr0, .inr (4, [.ref hx0, .ref hd0, .int (zI pl), .int (zI be), .int (zI to), .int (zI nu), .int (zI it), .int (zI lt), .int (zI bt)])), (hx0, .inr (6, [.ref ax, .int (zI tn)])), (ax, .inl (G.2.1, 200, .inl (aZ tf)))] (fun (u : Int × Int × Int × Int) => match u with | (pl2, be2, to2, nu2) => (pl2 = tkS tf tn be ∧ be2 = tkE tf tn be ∧ to2 = tkK tf tn be ∧ (tkK tf tn be = -2 → nu2 = tkV tf tn be))) (fun (u : Int × Int × Int × Int) => match u with | (pl2, be2, to2, nu2) => [(hr0, .inr (4, [.ref hx0, .ref hd0, .int (zI pl2), .int (zI be2), .int (zI to2), .int (zI nu2), .int (zI it), .int (zI lt), .int (zI bt)])), (hx0, .inr (6, [.ref ax, .int (zI tn)])), (ax, .inl (G.2.1, 200, .inl (aZ tf)))])) 0 0 (wrA [(hr0, .inr (4, [.ref hx0, .ref hd0, .int (zI pl), .int (zI be), .int (zI to), .int (zI nu), .int (zI it), .int (zI lt), .int (zI bt)])), (hx0, .inr (6, [.ref ax, .int (zI tn)])), (ax, .inl (G.2.1, 200, .inl (aZ tf)))]) := by
  refine wv_ofW (cc := cX4_step) (maxL := 1) (by decide) rfl (Nat.le_of_ble_eq_true rfl) ?_
  intro p e s m below meth c Q A hx hb hml hown hts hK hret H locs hP hD hS ls hl
  have hown : s.vm.findClass RX4 = some m.cls := hown
  have hl : lv_has ls 1 [(0, .ref hr0)] := hl
  have f25 := hts (.fieldLink RX4 25 "QuarterTurns$Reader" "behind" "I") (by decide +kernel)
  have i4 : ∀ w ∈ wsX40, w ∈ wsX4_step := fun w h => List.mem_cons_of_mem _ (List.mem_append_left _ (List.mem_append_right _ h))
  have f49 := hts (.fieldLink RX4 49 "QuarterTurns$Reader" "place" "I") (by decide +kernel)
  have f18 := hts (.fieldLink RX4 18 "QuarterTurns$Reader" "text" "LQuarterTurns$Text;") (by decide +kernel)
  have f52 := hts (.fieldLink RX4 52 "QuarterTurns$Text" "length" "I") (by decide +kernel)
  have i6 : ∀ w ∈ wsX60, w ∈ wsX4_step := fun w h => List.mem_cons_of_mem _ (List.mem_append_right _ h)
  have f57 := hts (.fieldLink RX4 57 "QuarterTurns$Text" "letters" "[I") (by decide +kernel)
  have f42 := hts (.fieldLink RX4 42 "QuarterTurns$Reader" "token" "I") (by decide +kernel)
  refine lv_aload_n hx hb dX4_step_0 rfl (lv_at hl 0 rfl) ?_
  refine lv_aload_n hx hb dX4_step_1 rfl (lv_at hl 0 rfl) ?_
  refine va_get (ci := 4) (v := .int (zI be)) (C := RX4) (T := TX4) (N := 9) hx hb hts i4 hown hK hP 0 rfl rfl 3 (by decide) f25 (fun _ h9 => h9) rfl dX4_step_2 ?_
  refine va_put (ci := 4) (v := .int (zI be)) (ty := .int) (C := RX4) (T := TX4) (N := 9) hx hb hts i4 tyX4 tyX4_ok nmX4 hown hK hP hD hS 0 rfl rfl 2 (by decide) f49 (fun _ h9 => h9) rfl (tyX4_ok 2 (by decide)) rfl rfl (Nat.le_of_ble_eq_true rfl) dX4_step_5 (fun H locs hP hD hS => ?_)
  have hP : kP G [(hr0, .inr (4, [.ref hx0, .ref hd0, .int (zI be), .int (zI be), .int (zI to), .int (zI nu), .int (zI it), .int (zI lt), .int (zI bt)])), (hx0, .inr (6, [.ref ax, .int (zI tn)])), (ax, .inl (G.2.1, 200, .inl (aZ tf)))] H := hP
  have hD : va_D A [(hr0, .inr (4, [.ref hx0, .ref hd0, .int (zI be), .int (zI be), .int (zI to), .int (zI nu), .int (zI it), .int (zI lt), .int (zI bt)])), (hx0, .inr (6, [.ref ax, .int (zI tn)])), (ax, .inl (G.2.1, 200, .inl (aZ tf)))] := hD
  have loop8 : ∀ (n_ : Nat) (q : Int) (H : Heap) (locs : List Loc) (ls : Array Slot), (be ≤ q ∧ q ≤ tn) → (tkS tf tn q = tkS tf tn be) → (tn - q).toNat < n_ → kP G [(hr0, .inr (4, [.ref hx0, .ref hd0, .int (zI q), .int (zI be), .int (zI to), .int (zI nu), .int (zI it), .int (zI lt), .int (zI bt)])), (hx0, .inr (6, [.ref ax, .int (zI tn)])), (ax, .inl (G.2.1, 200, .inl (aZ tf)))] H → va_D A [(hr0, .inr (4, [.ref hx0, .ref hd0, .int (zI q), .int (zI be), .int (zI to), .int (zI nu), .int (zI it), .int (zI lt), .int (zI bt)])), (hx0, .inr (6, [.ref ax, .int (zI tn)])), (ax, .inl (G.2.1, 200, .inl (aZ tf)))] → va_S A s.heap H locs → lv_has ls 1 [(0, .ref hr0)] → W p l e rmX4_step s m ([.ref hr0] : List Value).toArray below meth c H locs 0 0 Q (F0 m 8 ls []) := by
    intro n_
    induction n_ with
    | zero =>
      intro q H locs ls hq hqs hm
      exact absurd hm (Nat.not_lt_zero _)
    | succ n_ ih8 =>
      intro q H locs ls hq hqs hm8 hP hD hS hl
      refine lv_aload_n hx hb dX4_step_8 rfl (lv_at hl 0 rfl) ?_
      refine va_get (ci := 4) (v := .int (zI q)) (C := RX4) (T := TX4) (N := 9) hx hb hts i4 hown hK hP 0 rfl rfl 2 (by decide) f49 (fun _ h9 => h9) rfl dX4_step_9 ?_
      refine lv_aload_n hx hb dX4_step_12 rfl (lv_at hl 0 rfl) ?_
      refine va_get (ci := 4) (v := .ref hx0) (C := RX4) (T := TX4) (N := 9) hx hb hts i4 hown hK hP 0 rfl rfl 0 (by decide) f18 (fun _ h9 => h9) rfl dX4_step_13 ?_
      refine va_get (ci := 6) (v := .int (zI tn)) (C := RX6) (T := TX6) (N := 2) hx hb hts i6 hown hK hP 1 rfl rfl 1 (by decide) f52 (fun _ h9 => h9) rfl dX4_step_16 ?_
      refine z_icmp_ge (tgt := 52) hx hb (by omega) dX4_step_19 (by decide) (fun c_1 => ?_) (fun c_1 => ?_)
      · have hqe : tkS tf tn be = q := by rw [← hqs]; exact tkS_stop (by omega)
        refine lv_aload_n hx hb dX4_step_52 rfl (lv_at hl 0 rfl) ?_
        refine lv_aload_n hx hb dX4_step_53 rfl (lv_at hl 0 rfl) ?_
        refine va_get (ci := 4) (v := .ref hx0) (C := RX4) (T := TX4) (N := 9) hx hb hts i4 hown hK hP 0 rfl rfl 0 (by decide) f18 (fun _ h9 => h9) rfl dX4_step_54 ?_
        refine lv_aload_n hx hb dX4_step_57 rfl (lv_at hl 0 rfl) ?_
        refine va_get (ci := 4) (v := .int (zI q)) (C := RX4) (T := TX4) (N := 9) hx hb hts i4 hown hK hP 0 rfl rfl 2 (by decide) f49 (fun _ h9 => h9) rfl dX4_step_58 ?_
        refine z_cV (As := [.int (zI q)]) (rest := [.ref hr0]) ⟨hx, hb, hml, hown, hts⟩ (c_X6_behindDigits l G hx0 ax tf tn q (by first | assumption | omega) (by first | assumption | omega) (by first | assumption | omega)) (cwV 1 hts gX4_step_X6_behindDigits rfl rfl rfl pd_X6_behindDigits ⟨(Nat.le_of_ble_eq_true rfl), (Nat.le_of_ble_eq_true rfl)⟩) hK hP hS [1, 2] rfl rfl rfl rfl rfl hl.1 rfl (Nat.le_of_ble_eq_true rfl) dX4_step_61 ⟨Nat.zero_le _, Nat.zero_le _⟩ (fun H locs hP hS => ?_)
        have hq_2 := dgZ_rng (f := tf) (n := tn) (e := q) (by omega)
        refine va_put (ci := 4) (v := .int (zI (dgZ tf tn q))) (ty := .int) (C := RX4) (T := TX4) (N := 9) hx hb hts i4 tyX4 tyX4_ok nmX4 hown hK hP hD hS 0 rfl rfl 3 (by decide) f25 (fun _ h9 => h9) rfl (tyX4_ok 3 (by decide)) rfl rfl (Nat.le_of_ble_eq_true rfl) dX4_step_64 (fun H locs hP hD hS => ?_)
        have hP : kP G [(hr0, .inr (4, [.ref hx0, .ref hd0, .int (zI q), .int (zI (dgZ tf tn q)), .int (zI to), .int (zI nu), .int (zI it), .int (zI lt), .int (zI bt)])), (hx0, .inr (6, [.ref ax, .int (zI tn)])), (ax, .inl (G.2.1, 200, .inl (aZ tf)))] H := hP
        have hD : va_D A [(hr0, .inr (4, [.ref hx0, .ref hd0, .int (zI q), .int (zI (dgZ tf tn q)), .int (zI to), .int (zI nu), .int (zI it), .int (zI lt), .int (zI bt)])), (hx0, .inr (6, [.ref ax, .int (zI tn)])), (ax, .inl (G.2.1, 200, .inl (aZ tf)))] := hD
        refine lv_aload_n hx hb dX4_step_67 rfl (lv_at hl 0 rfl) ?_
        refine va_get (ci := 4) (v := .int (zI q)) (C := RX4) (T := TX4) (N := 9) hx hb hts i4 hown hK hP 0 rfl rfl 2 (by decide) f49 (fun _ h9 => h9) rfl dX4_step_68 ?_
        refine lv_aload_n hx hb dX4_step_71 rfl (lv_at hl 0 rfl) ?_
        refine va_get (ci := 4) (v := .ref hx0) (C := RX4) (T := TX4) (N := 9) hx hb hts i4 hown hK hP 0 rfl rfl 0 (by decide) f18 (fun _ h9 => h9) rfl dX4_step_72 ?_
        refine va_get (ci := 6) (v := .int (zI tn)) (C := RX6) (T := TX6) (N := 2) hx hb hts i6 hown hK hP 1 rfl rfl 1 (by decide) f52 (fun _ h9 => h9) rfl dX4_step_75 ?_
        refine z_icmp_lt (tgt := 89) hx hb (by omega) dX4_step_78 (by decide) (fun c_3 => ?_) (fun c_3 => ?_)
        · refine lv_aload_n hx hb dX4_step_89 rfl (lv_at hl 0 rfl) ?_
          refine va_get (ci := 4) (v := .int (zI (dgZ tf tn q))) (C := RX4) (T := TX4) (N := 9) hx hb hts i4 hown hK hP 0 rfl rfl 3 (by decide) f25 (fun _ h9 => h9) rfl dX4_step_90 ?_
          refine lv_aload_n hx hb dX4_step_93 rfl (lv_at hl 0 rfl) ?_
          refine va_get (ci := 4) (v := .int (zI q)) (C := RX4) (T := TX4) (N := 9) hx hb hts i4 hown hK hP 0 rfl rfl 2 (by decide) f49 (fun _ h9 => h9) rfl dX4_step_94 ?_
          refine z_icmp_le (tgt := 107) hx hb (by omega) dX4_step_97 (by decide) (fun c_4 => ?_) (fun c_4 => ?_)
          · refine lv_aload_n hx hb dX4_step_107 rfl (lv_at hl 0 rfl) ?_
            refine lv_aload_n hx hb dX4_step_108 rfl (lv_at hl 0 rfl) ?_
            refine va_get (ci := 4) (v := .ref hx0) (C := RX4) (T := TX4) (N := 9) hx hb hts i4 hown hK hP 0 rfl rfl 0 (by decide) f18 (fun _ h9 => h9) rfl dX4_step_109 ?_
            refine va_get (ci := 6) (v := .ref ax) (C := RX6) (T := TX6) (N := 2) hx hb hts i6 hown hK hP 1 rfl rfl 0 (by decide) f57 (fun _ h9 => h9) rfl dX4_step_112 ?_
            refine lv_aload_n hx hb dX4_step_115 rfl (lv_at hl 0 rfl) ?_
            refine va_get (ci := 4) (v := .int (zI q)) (C := RX4) (T := TX4) (N := 9) hx hb hts i4 hown hK hP 0 rfl rfl 2 (by decide) f49 (fun _ h9 => h9) rfl dX4_step_116 ?_
            refine z_iald (n := 200) (f := tf) hx hb hK hP 2 rfl (by omega) dX4_step_119 ?_
            have he_5 := htf q (by omega) (by omega)
            refine va_put (ci := 4) (v := .int (zI (tf q))) (ty := .int) (C := RX4) (T := TX4) (N := 9) hx hb hts i4 tyX4 tyX4_ok nmX4 hown hK hP hD hS 0 rfl rfl 4 (by decide) f42 (fun _ h9 => h9) rfl (tyX4_ok 4 (by decide)) rfl rfl (Nat.le_of_ble_eq_true rfl) dX4_step_120 (fun H locs hP hD hS => ?_)
            have hP : kP G [(hr0, .inr (4, [.ref hx0, .ref hd0, .int (zI q), .int (zI (dgZ tf tn q)), .int (zI (tf q)), .int (zI nu), .int (zI it), .int (zI lt), .int (zI bt)])), (hx0, .inr (6, [.ref ax, .int (zI tn)])), (ax, .inl (G.2.1, 200, .inl (aZ tf)))] H := hP
            have hD : va_D A [(hr0, .inr (4, [.ref hx0, .ref hd0, .int (zI q), .int (zI (dgZ tf tn q)), .int (zI (tf q)), .int (zI nu), .int (zI it), .int (zI lt), .int (zI bt)])), (hx0, .inr (6, [.ref ax, .int (zI tn)])), (ax, .inl (G.2.1, 200, .inl (aZ tf)))] := hD
            refine lv_aload_n hx hb dX4_step_123 rfl (lv_at hl 0 rfl) ?_
            refine lv_dup hx hb dX4_step_124 rfl ?_
            refine va_get (ci := 4) (v := .int (zI (dgZ tf tn q))) (C := RX4) (T := TX4) (N := 9) hx hb hts i4 hown hK hP 0 rfl rfl 3 (by decide) f25 (fun _ h9 => h9) rfl dX4_step_125 ?_
            refine lv_iconst (v := zI 1) hx hb dX4_step_128 rfl ?_
            refine z_iadd hx hb dX4_step_129 ?_
            refine va_put (ci := 4) (v := .int (zI ((dgZ tf tn q) + 1))) (ty := .int) (C := RX4) (T := TX4) (N := 9) hx hb hts i4 tyX4 tyX4_ok nmX4 hown hK hP hD hS 0 rfl rfl 3 (by decide) f25 (fun _ h9 => h9) rfl (tyX4_ok 3 (by decide)) rfl rfl (Nat.le_of_ble_eq_true rfl) dX4_step_130 (fun H locs hP hD hS => ?_)
            have hP : kP G [(hr0, .inr (4, [.ref hx0, .ref hd0, .int (zI q), .int (zI ((dgZ tf tn q) + 1)), .int (zI (tf q)), .int (zI nu), .int (zI it), .int (zI lt), .int (zI bt)])), (hx0, .inr (6, [.ref ax, .int (zI tn)])), (ax, .inl (G.2.1, 200, .inl (aZ tf)))] H := hP
            have hD : va_D A [(hr0, .inr (4, [.ref hx0, .ref hd0, .int (zI q), .int (zI ((dgZ tf tn q) + 1)), .int (zI (tf q)), .int (zI nu), .int (zI it), .int (zI lt), .int (zI bt)])), (hx0, .inr (6, [.ref ax, .int (zI tn)])), (ax, .inl (G.2.1, 200, .inl (aZ tf)))] := hD
            exact hret H locs ls 133 (q, (dgZ tf tn q) + 1, tf q, nu) (by first | exact stp1 hqe (by omega) | exact stp3 hqe (by omega) (by omega) (by omega)) hP hS dX4_step_133
          · refine lv_aload_n hx hb dX4_step_100 rfl (lv_at hl 0 rfl) ?_
            refine z_wVv (As := []) (rest := []) ⟨hx, hb, hml, hown, hts⟩ (c_X4_readNumber l G hr0 hd0 q (dgZ tf tn q) to nu it lt bt hx0 ax tf tn (by first | assumption | omega) (by first | assumption | omega) (by first | assumption | omega) (by exact fun j h1 h2 => (dgZ_in h1 h2).2)) (cwV 0 hts gX4_step_X4_readNumber rfl rfl rfl pd_X4_readNumber ⟨(Nat.le_of_ble_eq_true rfl), (Nat.le_of_ble_eq_true rfl)⟩) hK hP hD hS [0, 1, 2] (by decide) rfl rfl rfl rfl (fun _ => rfl) rfl hl.1 rfl (Nat.le_of_ble_eq_true rfl) dX4_step_101 ⟨Nat.zero_le _, Nat.zero_le _⟩ (fun u_ H locs hw_8 hP hD hS => ?_)
            obtain ⟨to2_6, nu2_7⟩ := u_
            try dsimp only at hw_8
            obtain ⟨rfl, hnu_9⟩ := hw_8
            have hP : kP G [(hr0, .inr (4, [.ref hx0, .ref hd0, .int (zI q), .int (zI (dgZ tf tn q)), .int (zI (nkZ tf q (dgZ tf tn q))), .int (zI nu2_7), .int (zI it), .int (zI lt), .int (zI bt)])), (hx0, .inr (6, [.ref ax, .int (zI tn)])), (ax, .inl (G.2.1, 200, .inl (aZ tf)))] H := hP
            have hD : va_D A [(hr0, .inr (4, [.ref hx0, .ref hd0, .int (zI q), .int (zI (dgZ tf tn q)), .int (zI (nkZ tf q (dgZ tf tn q))), .int (zI nu2_7), .int (zI it), .int (zI lt), .int (zI bt)])), (hx0, .inr (6, [.ref ax, .int (zI tn)])), (ax, .inl (G.2.1, 200, .inl (aZ tf)))] := hD
            refine lv_goto (tgt := 133) hx hb dX4_step_104 (by decide) ?_
            exact hret H locs ls 133 (q, dgZ tf tn q, nkZ tf q (dgZ tf tn q), nu2_7) (by exact stp2 hqe (by omega) (by omega) hnu_9) hP hS dX4_step_133
        · refine lv_aload_n hx hb dX4_step_81 rfl (lv_at hl 0 rfl) ?_
          refine lv_iconst (v := zI (-1)) hx hb dX4_step_82 rfl ?_
          refine va_put (ci := 4) (v := .int (zI (-1))) (ty := .int) (C := RX4) (T := TX4) (N := 9) hx hb hts i4 tyX4 tyX4_ok nmX4 hown hK hP hD hS 0 rfl rfl 4 (by decide) f42 (fun _ h9 => h9) rfl (tyX4_ok 4 (by decide)) rfl rfl (Nat.le_of_ble_eq_true rfl) dX4_step_83 (fun H locs hP hD hS => ?_)
          have hP : kP G [(hr0, .inr (4, [.ref hx0, .ref hd0, .int (zI q), .int (zI (dgZ tf tn q)), .int (zI (-1)), .int (zI nu), .int (zI it), .int (zI lt), .int (zI bt)])), (hx0, .inr (6, [.ref ax, .int (zI tn)])), (ax, .inl (G.2.1, 200, .inl (aZ tf)))] H := hP
          have hD : va_D A [(hr0, .inr (4, [.ref hx0, .ref hd0, .int (zI q), .int (zI (dgZ tf tn q)), .int (zI (-1)), .int (zI nu), .int (zI it), .int (zI lt), .int (zI bt)])), (hx0, .inr (6, [.ref ax, .int (zI tn)])), (ax, .inl (G.2.1, 200, .inl (aZ tf)))] := hD
          refine lv_goto (tgt := 133) hx hb dX4_step_86 (by decide) ?_
          exact hret H locs ls 133 (q, dgZ tf tn q, (-1), nu) (by first | exact stp1 hqe (by omega) | exact stp3 hqe (by omega) (by omega) (by omega)) hP hS dX4_step_133
      · refine lv_aload_n hx hb dX4_step_22 rfl (lv_at hl 0 rfl) ?_
        refine va_get (ci := 4) (v := .ref hx0) (C := RX4) (T := TX4) (N := 9) hx hb hts i4 hown hK hP 0 rfl rfl 0 (by decide) f18 (fun _ h9 => h9) rfl dX4_step_23 ?_
        refine va_get (ci := 6) (v := .ref ax) (C := RX6) (T := TX6) (N := 2) hx hb hts i6 hown hK hP 1 rfl rfl 0 (by decide) f57 (fun _ h9 => h9) rfl dX4_step_26 ?_
        refine lv_aload_n hx hb dX4_step_29 rfl (lv_at hl 0 rfl) ?_
        refine va_get (ci := 4) (v := .int (zI q)) (C := RX4) (T := TX4) (N := 9) hx hb hts i4 hown hK hP 0 rfl rfl 2 (by decide) f49 (fun _ h9 => h9) rfl dX4_step_30 ?_
        refine z_iald (n := 200) (f := tf) hx hb hK hP 2 rfl (by omega) dX4_step_33 ?_
        have he_10 := htf q (by omega) (by omega)
        refine lv_bipush (v := zI 32) hx hb dX4_step_34 (by decide) ?_
        refine z_icmp_ne (tgt := 52) hx hb (by omega) dX4_step_36 (by decide) (fun c_11 => ?_) (fun c_11 => ?_)
        · have hqe : tkS tf tn be = q := by rw [← hqs]; exact tkS_stop (by omega)
          refine lv_aload_n hx hb dX4_step_52 rfl (lv_at hl 0 rfl) ?_
          refine lv_aload_n hx hb dX4_step_53 rfl (lv_at hl 0 rfl) ?_
          refine va_get (ci := 4) (v := .ref hx0) (C := RX4) (T := TX4) (N := 9) hx hb hts i4 hown hK hP 0 rfl rfl 0 (by decide) f18 (fun _ h9 => h9) rfl dX4_step_54 ?_
          refine lv_aload_n hx hb dX4_step_57 rfl (lv_at hl 0 rfl) ?_
          refine va_get (ci := 4) (v := .int (zI q)) (C := RX4) (T := TX4) (N := 9) hx hb hts i4 hown hK hP 0 rfl rfl 2 (by decide) f49 (fun _ h9 => h9) rfl dX4_step_58 ?_
          refine z_cV (As := [.int (zI q)]) (rest := [.ref hr0]) ⟨hx, hb, hml, hown, hts⟩ (c_X6_behindDigits l G hx0 ax tf tn q (by first | assumption | omega) (by first | assumption | omega) (by first | assumption | omega)) (cwV 1 hts gX4_step_X6_behindDigits rfl rfl rfl pd_X6_behindDigits ⟨(Nat.le_of_ble_eq_true rfl), (Nat.le_of_ble_eq_true rfl)⟩) hK hP hS [1, 2] rfl rfl rfl rfl rfl hl.1 rfl (Nat.le_of_ble_eq_true rfl) dX4_step_61 ⟨Nat.zero_le _, Nat.zero_le _⟩ (fun H locs hP hS => ?_)
          have hq_12 := dgZ_rng (f := tf) (n := tn) (e := q) (by omega)
          refine va_put (ci := 4) (v := .int (zI (dgZ tf tn q))) (ty := .int) (C := RX4) (T := TX4) (N := 9) hx hb hts i4 tyX4 tyX4_ok nmX4 hown hK hP hD hS 0 rfl rfl 3 (by decide) f25 (fun _ h9 => h9) rfl (tyX4_ok 3 (by decide)) rfl rfl (Nat.le_of_ble_eq_true rfl) dX4_step_64 (fun H locs hP hD hS => ?_)
          have hP : kP G [(hr0, .inr (4, [.ref hx0, .ref hd0, .int (zI q), .int (zI (dgZ tf tn q)), .int (zI to), .int (zI nu), .int (zI it), .int (zI lt), .int (zI bt)])), (hx0, .inr (6, [.ref ax, .int (zI tn)])), (ax, .inl (G.2.1, 200, .inl (aZ tf)))] H := hP
          have hD : va_D A [(hr0, .inr (4, [.ref hx0, .ref hd0, .int (zI q), .int (zI (dgZ tf tn q)), .int (zI to), .int (zI nu), .int (zI it), .int (zI lt), .int (zI bt)])), (hx0, .inr (6, [.ref ax, .int (zI tn)])), (ax, .inl (G.2.1, 200, .inl (aZ tf)))] := hD
          refine lv_aload_n hx hb dX4_step_67 rfl (lv_at hl 0 rfl) ?_
          refine va_get (ci := 4) (v := .int (zI q)) (C := RX4) (T := TX4) (N := 9) hx hb hts i4 hown hK hP 0 rfl rfl 2 (by decide) f49 (fun _ h9 => h9) rfl dX4_step_68 ?_
          refine lv_aload_n hx hb dX4_step_71 rfl (lv_at hl 0 rfl) ?_
          refine va_get (ci := 4) (v := .ref hx0) (C := RX4) (T := TX4) (N := 9) hx hb hts i4 hown hK hP 0 rfl rfl 0 (by decide) f18 (fun _ h9 => h9) rfl dX4_step_72 ?_
          refine va_get (ci := 6) (v := .int (zI tn)) (C := RX6) (T := TX6) (N := 2) hx hb hts i6 hown hK hP 1 rfl rfl 1 (by decide) f52 (fun _ h9 => h9) rfl dX4_step_75 ?_
          refine z_icmp_lt (tgt := 89) hx hb (by omega) dX4_step_78 (by decide) (fun c_13 => ?_) (fun c_13 => ?_)
          · refine lv_aload_n hx hb dX4_step_89 rfl (lv_at hl 0 rfl) ?_
            refine va_get (ci := 4) (v := .int (zI (dgZ tf tn q))) (C := RX4) (T := TX4) (N := 9) hx hb hts i4 hown hK hP 0 rfl rfl 3 (by decide) f25 (fun _ h9 => h9) rfl dX4_step_90 ?_
            refine lv_aload_n hx hb dX4_step_93 rfl (lv_at hl 0 rfl) ?_
            refine va_get (ci := 4) (v := .int (zI q)) (C := RX4) (T := TX4) (N := 9) hx hb hts i4 hown hK hP 0 rfl rfl 2 (by decide) f49 (fun _ h9 => h9) rfl dX4_step_94 ?_
            refine z_icmp_le (tgt := 107) hx hb (by omega) dX4_step_97 (by decide) (fun c_14 => ?_) (fun c_14 => ?_)
            · refine lv_aload_n hx hb dX4_step_107 rfl (lv_at hl 0 rfl) ?_
              refine lv_aload_n hx hb dX4_step_108 rfl (lv_at hl 0 rfl) ?_
              refine va_get (ci := 4) (v := .ref hx0) (C := RX4) (T := TX4) (N := 9) hx hb hts i4 hown hK hP 0 rfl rfl 0 (by decide) f18 (fun _ h9 => h9) rfl dX4_step_109 ?_
              refine va_get (ci := 6) (v := .ref ax) (C := RX6) (T := TX6) (N := 2) hx hb hts i6 hown hK hP 1 rfl rfl 0 (by decide) f57 (fun _ h9 => h9) rfl dX4_step_112 ?_
              refine lv_aload_n hx hb dX4_step_115 rfl (lv_at hl 0 rfl) ?_
              refine va_get (ci := 4) (v := .int (zI q)) (C := RX4) (T := TX4) (N := 9) hx hb hts i4 hown hK hP 0 rfl rfl 2 (by decide) f49 (fun _ h9 => h9) rfl dX4_step_116 ?_
              refine z_iald (n := 200) (f := tf) hx hb hK hP 2 rfl (by omega) dX4_step_119 ?_
              have he_15 := htf q (by omega) (by omega)
              refine va_put (ci := 4) (v := .int (zI (tf q))) (ty := .int) (C := RX4) (T := TX4) (N := 9) hx hb hts i4 tyX4 tyX4_ok nmX4 hown hK hP hD hS 0 rfl rfl 4 (by decide) f42 (fun _ h9 => h9) rfl (tyX4_ok 4 (by decide)) rfl rfl (Nat.le_of_ble_eq_true rfl) dX4_step_120 (fun H locs hP hD hS => ?_)
              have hP : kP G [(hr0, .inr (4, [.ref hx0, .ref hd0, .int (zI q), .int (zI (dgZ tf tn q)), .int (zI (tf q)), .int (zI nu), .int (zI it), .int (zI lt), .int (zI bt)])), (hx0, .inr (6, [.ref ax, .int (zI tn)])), (ax, .inl (G.2.1, 200, .inl (aZ tf)))] H := hP
              have hD : va_D A [(hr0, .inr (4, [.ref hx0, .ref hd0, .int (zI q), .int (zI (dgZ tf tn q)), .int (zI (tf q)), .int (zI nu), .int (zI it), .int (zI lt), .int (zI bt)])), (hx0, .inr (6, [.ref ax, .int (zI tn)])), (ax, .inl (G.2.1, 200, .inl (aZ tf)))] := hD
              refine lv_aload_n hx hb dX4_step_123 rfl (lv_at hl 0 rfl) ?_
              refine lv_dup hx hb dX4_step_124 rfl ?_
              refine va_get (ci := 4) (v := .int (zI (dgZ tf tn q))) (C := RX4) (T := TX4) (N := 9) hx hb hts i4 hown hK hP 0 rfl rfl 3 (by decide) f25 (fun _ h9 => h9) rfl dX4_step_125 ?_
              refine lv_iconst (v := zI 1) hx hb dX4_step_128 rfl ?_
              refine z_iadd hx hb dX4_step_129 ?_
              refine va_put (ci := 4) (v := .int (zI ((dgZ tf tn q) + 1))) (ty := .int) (C := RX4) (T := TX4) (N := 9) hx hb hts i4 tyX4 tyX4_ok nmX4 hown hK hP hD hS 0 rfl rfl 3 (by decide) f25 (fun _ h9 => h9) rfl (tyX4_ok 3 (by decide)) rfl rfl (Nat.le_of_ble_eq_true rfl) dX4_step_130 (fun H locs hP hD hS => ?_)
              have hP : kP G [(hr0, .inr (4, [.ref hx0, .ref hd0, .int (zI q), .int (zI ((dgZ tf tn q) + 1)), .int (zI (tf q)), .int (zI nu), .int (zI it), .int (zI lt), .int (zI bt)])), (hx0, .inr (6, [.ref ax, .int (zI tn)])), (ax, .inl (G.2.1, 200, .inl (aZ tf)))] H := hP
              have hD : va_D A [(hr0, .inr (4, [.ref hx0, .ref hd0, .int (zI q), .int (zI ((dgZ tf tn q) + 1)), .int (zI (tf q)), .int (zI nu), .int (zI it), .int (zI lt), .int (zI bt)])), (hx0, .inr (6, [.ref ax, .int (zI tn)])), (ax, .inl (G.2.1, 200, .inl (aZ tf)))] := hD
              exact hret H locs ls 133 (q, (dgZ tf tn q) + 1, tf q, nu) (by first | exact stp1 hqe (by omega) | exact stp3 hqe (by omega) (by omega) (by omega)) hP hS dX4_step_133
            · refine lv_aload_n hx hb dX4_step_100 rfl (lv_at hl 0 rfl) ?_
              refine z_wVv (As := []) (rest := []) ⟨hx, hb, hml, hown, hts⟩ (c_X4_readNumber l G hr0 hd0 q (dgZ tf tn q) to nu it lt bt hx0 ax tf tn (by first | assumption | omega) (by first | assumption | omega) (by first | assumption | omega) (by exact fun j h1 h2 => (dgZ_in h1 h2).2)) (cwV 0 hts gX4_step_X4_readNumber rfl rfl rfl pd_X4_readNumber ⟨(Nat.le_of_ble_eq_true rfl), (Nat.le_of_ble_eq_true rfl)⟩) hK hP hD hS [0, 1, 2] (by decide) rfl rfl rfl rfl (fun _ => rfl) rfl hl.1 rfl (Nat.le_of_ble_eq_true rfl) dX4_step_101 ⟨Nat.zero_le _, Nat.zero_le _⟩ (fun u_ H locs hw_18 hP hD hS => ?_)
              obtain ⟨to2_16, nu2_17⟩ := u_
              try dsimp only at hw_18
              obtain ⟨rfl, hnu_19⟩ := hw_18
              have hP : kP G [(hr0, .inr (4, [.ref hx0, .ref hd0, .int (zI q), .int (zI (dgZ tf tn q)), .int (zI (nkZ tf q (dgZ tf tn q))), .int (zI nu2_17), .int (zI it), .int (zI lt), .int (zI bt)])), (hx0, .inr (6, [.ref ax, .int (zI tn)])), (ax, .inl (G.2.1, 200, .inl (aZ tf)))] H := hP
              have hD : va_D A [(hr0, .inr (4, [.ref hx0, .ref hd0, .int (zI q), .int (zI (dgZ tf tn q)), .int (zI (nkZ tf q (dgZ tf tn q))), .int (zI nu2_17), .int (zI it), .int (zI lt), .int (zI bt)])), (hx0, .inr (6, [.ref ax, .int (zI tn)])), (ax, .inl (G.2.1, 200, .inl (aZ tf)))] := hD
              refine lv_goto (tgt := 133) hx hb dX4_step_104 (by decide) ?_
              exact hret H locs ls 133 (q, dgZ tf tn q, nkZ tf q (dgZ tf tn q), nu2_17) (by exact stp2 hqe (by omega) (by omega) hnu_19) hP hS dX4_step_133
          · refine lv_aload_n hx hb dX4_step_81 rfl (lv_at hl 0 rfl) ?_
            refine lv_iconst (v := zI (-1)) hx hb dX4_step_82 rfl ?_
            refine va_put (ci := 4) (v := .int (zI (-1))) (ty := .int) (C := RX4) (T := TX4) (N := 9) hx hb hts i4 tyX4 tyX4_ok nmX4 hown hK hP hD hS 0 rfl rfl 4 (by decide) f42 (fun _ h9 => h9) rfl (tyX4_ok 4 (by decide)) rfl rfl (Nat.le_of_ble_eq_true rfl) dX4_step_83 (fun H locs hP hD hS => ?_)
            have hP : kP G [(hr0, .inr (4, [.ref hx0, .ref hd0, .int (zI q), .int (zI (dgZ tf tn q)), .int (zI (-1)), .int (zI nu), .int (zI it), .int (zI lt), .int (zI bt)])), (hx0, .inr (6, [.ref ax, .int (zI tn)])), (ax, .inl (G.2.1, 200, .inl (aZ tf)))] H := hP
            have hD : va_D A [(hr0, .inr (4, [.ref hx0, .ref hd0, .int (zI q), .int (zI (dgZ tf tn q)), .int (zI (-1)), .int (zI nu), .int (zI it), .int (zI lt), .int (zI bt)])), (hx0, .inr (6, [.ref ax, .int (zI tn)])), (ax, .inl (G.2.1, 200, .inl (aZ tf)))] := hD
            refine lv_goto (tgt := 133) hx hb dX4_step_86 (by decide) ?_
            exact hret H locs ls 133 (q, dgZ tf tn q, (-1), nu) (by first | exact stp1 hqe (by omega) | exact stp3 hqe (by omega) (by omega) (by omega)) hP hS dX4_step_133
        · refine lv_aload_n hx hb dX4_step_39 rfl (lv_at hl 0 rfl) ?_
          refine lv_dup hx hb dX4_step_40 rfl ?_
          refine va_get (ci := 4) (v := .int (zI q)) (C := RX4) (T := TX4) (N := 9) hx hb hts i4 hown hK hP 0 rfl rfl 2 (by decide) f49 (fun _ h9 => h9) rfl dX4_step_41 ?_
          refine lv_iconst (v := zI 1) hx hb dX4_step_44 rfl ?_
          refine z_iadd hx hb dX4_step_45 ?_
          refine va_put (ci := 4) (v := .int (zI (q + 1))) (ty := .int) (C := RX4) (T := TX4) (N := 9) hx hb hts i4 tyX4 tyX4_ok nmX4 hown hK hP hD hS 0 rfl rfl 2 (by decide) f49 (fun _ h9 => h9) rfl (tyX4_ok 2 (by decide)) rfl rfl (Nat.le_of_ble_eq_true rfl) dX4_step_46 (fun H locs hP hD hS => ?_)
          have hP : kP G [(hr0, .inr (4, [.ref hx0, .ref hd0, .int (zI (q + 1)), .int (zI be), .int (zI to), .int (zI nu), .int (zI it), .int (zI lt), .int (zI bt)])), (hx0, .inr (6, [.ref ax, .int (zI tn)])), (ax, .inl (G.2.1, 200, .inl (aZ tf)))] H := hP
          have hD : va_D A [(hr0, .inr (4, [.ref hx0, .ref hd0, .int (zI (q + 1)), .int (zI be), .int (zI to), .int (zI nu), .int (zI it), .int (zI lt), .int (zI bt)])), (hx0, .inr (6, [.ref ax, .int (zI tn)])), (ax, .inl (G.2.1, 200, .inl (aZ tf)))] := hD
          refine lv_goto (tgt := 8) hx hb dX4_step_49 (by decide) ?_
          exact ih8 (q + 1) H locs ls (by omega) (by rw [← tkS_step (by omega)]; exact hqs) (by omega) hP hD hS (lv_sub hl [0] rfl)
  exact loop8 _ be H locs ls (by omega) rfl (Nat.lt_succ_self _) hP hD hS (lv_sub hl [0] rfl)
theorem pd_X4_isNumber : yX4_isNumber.cls = RX4 ∧ yX4_isNumber.cls ≠ "java/lang/invoke/MethodHandle" ∧ yX4_isNumber.cls ≠ "java/lang/invoke/VarHandle" ∧ (parseMethodDescriptor yX4_isNumber.desc).map (fun d => d.parameters.length) = some 2 := by decide +kernel
abbrev rmX4_isNumber : Room := { frames := 2, cells := 0, slots := 0, locals := 42 }
set_option maxHeartbeats 4000000 in
set_option maxRecDepth 100000 in
theorem c_X4_isNumber (l : Launch) (G : CX) (hr0 : Nat) (hd0 : Nat) (pl : Int) (be : Int) (to : Int) (nu : Int) (it : Int) (lt : Int) (bt : Int) (hx0 : Nat) (ax : Nat) (tf : Int → Int) (tn : Int) (lo : Int) (hi : Int) (htn : 0 ≤ tn ∧ tn ≤ 200) (htf : ∀ i : Int, 0 ≤ i → i < tn → 0 ≤ tf i ∧ tf i ≤ 255) (hbe : 0 ≤ be ∧ be ≤ tn) (hlh : (0 ≤ lo ∧ lo ≤ 100) ∧ 0 ≤ hi ∧ hi ≤ 100) : Met l yX4_isNumber wsX4_isNumber rmX4_isNumber (wrP G [.ref hr0, .int (zI lo), .int (zI hi)] [(hr0, .inr (4, [.ref hx0, .ref hd0, .int (zI pl), .int (zI be), .int (zI to), .int (zI nu), .int (zI it), .int (zI lt), .int (zI bt)])), (hx0, .inr (6, [.ref ax, .int (zI tn)])), (ax, .inl (G.2.1, 200, .inl (aZ tf)))]) (wrQ G [(hr0, .inr (4, [.ref hx0, .ref hd0, .int (zI pl), .int (zI be), .int (zI to), .int (zI nu), .int (zI it), .int (zI lt), .int (zI bt)])), (hx0, .inr (6, [.ref ax, .int (zI tn)])), (ax, .inl (G.2.1, 200, .inl (aZ tf)))] (fun (r_ : Int32) (u : Int × Int × Int × Int) => match u with | (pl2, be2, to2, nu2) => r_ = zI (if (tkK tf tn be = -2 ∧ lo ≤ tkV tf tn be ∧ tkV tf tn be ≤ hi) then 1 else 0) ∧ (pl2 = tkS tf tn be ∧ be2 = tkE tf tn be ∧ to2 = tkK tf tn be ∧ (tkK tf tn be = -2 → nu2 = tkV tf tn be))) (fun (u : Int × Int × Int × Int) => match u with | (pl2, be2, to2, nu2) => [(hr0, .inr (4, [.ref hx0, .ref hd0, .int (zI pl2), .int (zI be2), .int (zI to2), .int (zI nu2), .int (zI it), .int (zI lt), .int (zI bt)])), (hx0, .inr (6, [.ref ax, .int (zI tn)])), (ax, .inl (G.2.1, 200, .inl (aZ tf)))])) 0 0 (wrA [(hr0, .inr (4, [.ref hx0, .ref hd0, .int (zI pl), .int (zI be), .int (zI to), .int (zI nu), .int (zI it), .int (zI lt), .int (zI bt)])), (hx0, .inr (6, [.ref ax, .int (zI tn)])), (ax, .inl (G.2.1, 200, .inl (aZ tf)))]) := by
  refine wr_ofW (cc := cX4_isNumber) (maxL := 3) (ty := .boolean) (by decide) rfl (Nat.le_of_ble_eq_true rfl) ?_
  intro p e s m below meth c Q A hx hb hml hown hts hK hret H locs hP hD hS ls hl
  have hown : s.vm.findClass RX4 = some m.cls := hown
  have hl : lv_has ls 3 [(0, .ref hr0), (1, .int (zI lo)), (2, .int (zI hi))] := hl
  have f42 := hts (.fieldLink RX4 42 "QuarterTurns$Reader" "token" "I") (by decide +kernel)
  have i4 : ∀ w ∈ wsX40, w ∈ wsX4_isNumber := fun w h => List.mem_cons_of_mem _ (List.mem_append_left _ (List.mem_append_right _ h))
  have f68 := hts (.fieldLink RX4 68 "QuarterTurns$Reader" "number" "I") (by decide +kernel)
  refine lv_aload_n hx hb dX4_isNumber_0 rfl (lv_at hl 0 rfl) ?_
  refine z_wVv (As := []) (rest := []) ⟨hx, hb, hml, hown, hts⟩ (c_X4_step l G hr0 hd0 pl be to nu it lt bt hx0 ax tf tn (by first | assumption | omega) (by first | assumption | omega) (by first | assumption | omega)) (cwV 0 hts gX4_isNumber_X4_step rfl rfl rfl pd_X4_step ⟨(Nat.le_of_ble_eq_true rfl), (Nat.le_of_ble_eq_true rfl)⟩) hK hP hD hS [0, 1, 2] (by decide) rfl rfl rfl rfl (fun _ => rfl) rfl hl.1 rfl (Nat.le_of_ble_eq_true rfl) dX4_isNumber_1 ⟨Nat.zero_le _, Nat.zero_le _⟩ (fun u_ H locs hw_5 hP hD hS => ?_)
  obtain ⟨pl2_1, be2_2, to2_3, nu2_4⟩ := u_
  try dsimp only at hw_5
  obtain ⟨rfl, rfl, rfl, hnu_6⟩ := hw_5
  have hP : kP G [(hr0, .inr (4, [.ref hx0, .ref hd0, .int (zI (tkS tf tn be)), .int (zI (tkE tf tn be)), .int (zI (tkK tf tn be)), .int (zI nu2_4), .int (zI it), .int (zI lt), .int (zI bt)])), (hx0, .inr (6, [.ref ax, .int (zI tn)])), (ax, .inl (G.2.1, 200, .inl (aZ tf)))] H := hP
  have hD : va_D A [(hr0, .inr (4, [.ref hx0, .ref hd0, .int (zI (tkS tf tn be)), .int (zI (tkE tf tn be)), .int (zI (tkK tf tn be)), .int (zI nu2_4), .int (zI it), .int (zI lt), .int (zI bt)])), (hx0, .inr (6, [.ref ax, .int (zI tn)])), (ax, .inl (G.2.1, 200, .inl (aZ tf)))] := hD
  have hq_7 := tkS_rng (f := tf) (n := tn) (p := be) (by omega)
  have hq_8 := tkE_rng (f := tf) (n := tn) (p := be) (by omega)
  have hq_9 := tkK_rng (f := tf) (n := tn) (p := be) (by omega) (by first | assumption | omega)
  have hq_10 := tkV_rng (f := tf) (n := tn) (p := be)
  refine lv_aload_n hx hb dX4_isNumber_4 rfl (lv_at hl 0 rfl) ?_
  refine va_get (ci := 4) (v := .int (zI (tkK tf tn be))) (C := RX4) (T := TX4) (N := 9) hx hb hts i4 hown hK hP 0 rfl rfl 4 (by decide) f42 (fun _ h9 => h9) rfl dX4_isNumber_5 ?_
  refine lv_bipush (v := zI (-2)) hx hb dX4_isNumber_8 (by decide) ?_
  refine z_icmp_ne (tgt := 33) hx hb (by omega) dX4_isNumber_10 (by decide) (fun c_11 => ?_) (fun c_11 => ?_)
  · refine lv_iconst (v := zI 0) hx hb dX4_isNumber_33 rfl ?_
    exact hret H locs ls 34 _ (tkS tf tn be, tkE tf tn be, tkK tf tn be, nu2_4) (by decide) ⟨congrArg zI (if_neg (by omega)).symm, by exact ⟨rfl, rfl, rfl, hnu_6⟩⟩ hP hS dX4_isNumber_34
  · have hnv := hnu_6 (by omega)
    refine lv_aload_n hx hb dX4_isNumber_13 rfl (lv_at hl 0 rfl) ?_
    refine va_get (ci := 4) (v := .int (zI nu2_4)) (C := RX4) (T := TX4) (N := 9) hx hb hts i4 hown hK hP 0 rfl rfl 5 (by decide) f68 (fun _ h9 => h9) rfl dX4_isNumber_14 ?_
    refine lv_iload_n hx hb dX4_isNumber_17 rfl (lv_at hl 1 rfl) ?_
    refine z_icmp_lt (tgt := 33) hx hb (by omega) dX4_isNumber_18 (by decide) (fun c_12 => ?_) (fun c_12 => ?_)
    · refine lv_iconst (v := zI 0) hx hb dX4_isNumber_33 rfl ?_
      exact hret H locs ls 34 _ (tkS tf tn be, tkE tf tn be, tkK tf tn be, nu2_4) (by decide) ⟨congrArg zI (if_neg (by omega)).symm, by exact ⟨rfl, rfl, rfl, hnu_6⟩⟩ hP hS dX4_isNumber_34
    · refine lv_aload_n hx hb dX4_isNumber_21 rfl (lv_at hl 0 rfl) ?_
      refine va_get (ci := 4) (v := .int (zI nu2_4)) (C := RX4) (T := TX4) (N := 9) hx hb hts i4 hown hK hP 0 rfl rfl 5 (by decide) f68 (fun _ h9 => h9) rfl dX4_isNumber_22 ?_
      refine lv_iload_n hx hb dX4_isNumber_25 rfl (lv_at hl 2 rfl) ?_
      refine z_icmp_gt (tgt := 33) hx hb (by omega) dX4_isNumber_26 (by decide) (fun c_13 => ?_) (fun c_13 => ?_)
      · refine lv_iconst (v := zI 0) hx hb dX4_isNumber_33 rfl ?_
        exact hret H locs ls 34 _ (tkS tf tn be, tkE tf tn be, tkK tf tn be, nu2_4) (by decide) ⟨congrArg zI (if_neg (by omega)).symm, by exact ⟨rfl, rfl, rfl, hnu_6⟩⟩ hP hS dX4_isNumber_34
      · refine lv_iconst (v := zI 1) hx hb dX4_isNumber_29 rfl ?_
        refine lv_goto (tgt := 34) hx hb dX4_isNumber_30 (by decide) ?_
        exact hret H locs ls 34 _ (tkS tf tn be, tkE tf tn be, tkK tf tn be, nu2_4) (by decide) ⟨congrArg zI (if_pos (by omega)).symm, by exact ⟨rfl, rfl, rfl, hnu_6⟩⟩ hP hS dX4_isNumber_34
theorem pd_X4_ends : yX4_ends.cls = RX4 ∧ yX4_ends.cls ≠ "java/lang/invoke/MethodHandle" ∧ yX4_ends.cls ≠ "java/lang/invoke/VarHandle" ∧ (parseMethodDescriptor yX4_ends.desc).map (fun d => d.parameters.length) = some 0 := by decide +kernel
abbrev rmX4_ends : Room := { frames := 2, cells := 0, slots := 0, locals := 42 }
set_option maxHeartbeats 4000000 in
set_option maxRecDepth 100000 in
theorem c_X4_ends (l : Launch) (G : CX) (hr0 : Nat) (hd0 : Nat) (pl : Int) (be : Int) (to : Int) (nu : Int) (it : Int) (lt : Int) (bt : Int) (hx0 : Nat) (ax : Nat) (tf : Int → Int) (tn : Int) (htn : 0 ≤ tn ∧ tn ≤ 200) (htf : ∀ i : Int, 0 ≤ i → i < tn → 0 ≤ tf i ∧ tf i ≤ 255) (hbe : 0 ≤ be ∧ be ≤ tn) : Met l yX4_ends wsX4_ends rmX4_ends (wrP G [.ref hr0] [(hr0, .inr (4, [.ref hx0, .ref hd0, .int (zI pl), .int (zI be), .int (zI to), .int (zI nu), .int (zI it), .int (zI lt), .int (zI bt)])), (hx0, .inr (6, [.ref ax, .int (zI tn)])), (ax, .inl (G.2.1, 200, .inl (aZ tf)))]) (wrQ G [(hr0, .inr (4, [.ref hx0, .ref hd0, .int (zI pl), .int (zI be), .int (zI to), .int (zI nu), .int (zI it), .int (zI lt), .int (zI bt)])), (hx0, .inr (6, [.ref ax, .int (zI tn)])), (ax, .inl (G.2.1, 200, .inl (aZ tf)))] (fun (r_ : Int32) (u : Int × Int × Int × Int) => match u with | (pl2, be2, to2, nu2) => r_ = zI (if tkK tf tn be = 59 then 1 else 0) ∧ (pl2 = tkS tf tn be ∧ be2 = tkE tf tn be ∧ to2 = tkK tf tn be ∧ (tkK tf tn be = -2 → nu2 = tkV tf tn be))) (fun (u : Int × Int × Int × Int) => match u with | (pl2, be2, to2, nu2) => [(hr0, .inr (4, [.ref hx0, .ref hd0, .int (zI pl2), .int (zI be2), .int (zI to2), .int (zI nu2), .int (zI it), .int (zI lt), .int (zI bt)])), (hx0, .inr (6, [.ref ax, .int (zI tn)])), (ax, .inl (G.2.1, 200, .inl (aZ tf)))])) 0 0 (wrA [(hr0, .inr (4, [.ref hx0, .ref hd0, .int (zI pl), .int (zI be), .int (zI to), .int (zI nu), .int (zI it), .int (zI lt), .int (zI bt)])), (hx0, .inr (6, [.ref ax, .int (zI tn)])), (ax, .inl (G.2.1, 200, .inl (aZ tf)))]) := by
  refine wr_ofW (cc := cX4_ends) (maxL := 1) (ty := .boolean) (by decide) rfl (Nat.le_of_ble_eq_true rfl) ?_
  intro p e s m below meth c Q A hx hb hml hown hts hK hret H locs hP hD hS ls hl
  have hown : s.vm.findClass RX4 = some m.cls := hown
  have hl : lv_has ls 1 [(0, .ref hr0)] := hl
  have f42 := hts (.fieldLink RX4 42 "QuarterTurns$Reader" "token" "I") (by decide +kernel)
  have i4 : ∀ w ∈ wsX40, w ∈ wsX4_ends := fun w h => List.mem_cons_of_mem _ (List.mem_append_left _ (List.mem_append_right _ h))
  refine lv_aload_n hx hb dX4_ends_0 rfl (lv_at hl 0 rfl) ?_
  refine z_wVv (As := []) (rest := []) ⟨hx, hb, hml, hown, hts⟩ (c_X4_step l G hr0 hd0 pl be to nu it lt bt hx0 ax tf tn (by first | assumption | omega) (by first | assumption | omega) (by first | assumption | omega)) (cwV 0 hts gX4_ends_X4_step rfl rfl rfl pd_X4_step ⟨(Nat.le_of_ble_eq_true rfl), (Nat.le_of_ble_eq_true rfl)⟩) hK hP hD hS [0, 1, 2] (by decide) rfl rfl rfl rfl (fun _ => rfl) rfl hl.1 rfl (Nat.le_of_ble_eq_true rfl) dX4_ends_1 ⟨Nat.zero_le _, Nat.zero_le _⟩ (fun u_ H locs hw_5 hP hD hS => ?_)
  obtain ⟨pl2_1, be2_2, to2_3, nu2_4⟩ := u_
  try dsimp only at hw_5
  obtain ⟨rfl, rfl, rfl, hnu_6⟩ := hw_5
  have hP : kP G [(hr0, .inr (4, [.ref hx0, .ref hd0, .int (zI (tkS tf tn be)), .int (zI (tkE tf tn be)), .int (zI (tkK tf tn be)), .int (zI nu2_4), .int (zI it), .int (zI lt), .int (zI bt)])), (hx0, .inr (6, [.ref ax, .int (zI tn)])), (ax, .inl (G.2.1, 200, .inl (aZ tf)))] H := hP
  have hD : va_D A [(hr0, .inr (4, [.ref hx0, .ref hd0, .int (zI (tkS tf tn be)), .int (zI (tkE tf tn be)), .int (zI (tkK tf tn be)), .int (zI nu2_4), .int (zI it), .int (zI lt), .int (zI bt)])), (hx0, .inr (6, [.ref ax, .int (zI tn)])), (ax, .inl (G.2.1, 200, .inl (aZ tf)))] := hD
  have hq_7 := tkS_rng (f := tf) (n := tn) (p := be) (by omega)
  have hq_8 := tkE_rng (f := tf) (n := tn) (p := be) (by omega)
  have hq_9 := tkK_rng (f := tf) (n := tn) (p := be) (by omega) (by first | assumption | omega)
  have hq_10 := tkV_rng (f := tf) (n := tn) (p := be)
  refine lv_aload_n hx hb dX4_ends_4 rfl (lv_at hl 0 rfl) ?_
  refine va_get (ci := 4) (v := .int (zI (tkK tf tn be))) (C := RX4) (T := TX4) (N := 9) hx hb hts i4 hown hK hP 0 rfl rfl 4 (by decide) f42 (fun _ h9 => h9) rfl dX4_ends_5 ?_
  refine lv_bipush (v := zI 59) hx hb dX4_ends_8 (by decide) ?_
  refine z_icmp_ne (tgt := 17) hx hb (by omega) dX4_ends_10 (by decide) (fun c_11 => ?_) (fun c_11 => ?_)
  · refine lv_iconst (v := zI 0) hx hb dX4_ends_17 rfl ?_
    exact hret H locs ls 18 _ (tkS tf tn be, tkE tf tn be, tkK tf tn be, nu2_4) (by decide) ⟨congrArg zI (if_neg (by omega)).symm, by exact ⟨rfl, rfl, rfl, hnu_6⟩⟩ hP hS dX4_ends_18
  · refine lv_iconst (v := zI 1) hx hb dX4_ends_13 rfl ?_
    refine lv_goto (tgt := 18) hx hb dX4_ends_14 (by decide) ?_
    exact hret H locs ls 18 _ (tkS tf tn be, tkE tf tn be, tkK tf tn be, nu2_4) (by decide) ⟨congrArg zI (if_pos (by omega)).symm, by exact ⟨rfl, rfl, rfl, hnu_6⟩⟩ hP hS dX4_ends_18
theorem pd_X4_readShape : yX4_readShape.cls = RX4 ∧ yX4_readShape.cls ≠ "java/lang/invoke/MethodHandle" ∧ yX4_readShape.cls ≠ "java/lang/invoke/VarHandle" ∧ (parseMethodDescriptor yX4_readShape.desc).map (fun d => d.parameters.length) = some 0 := by decide +kernel
abbrev rmX4_readShape : Room := { frames := 3, cells := 0, slots := 0, locals := 64 }
set_option maxHeartbeats 4000000 in
set_option maxRecDepth 100000 in
theorem c_X4_readShape (l : Launch) (G : CX) (hr0 : Nat) (hd0 : Nat) (pl : Int) (be : Int) (to : Int) (nu : Int) (it : Int) (lt : Int) (bt : Int) (hx0 : Nat) (ax : Nat) (tf : Int → Int) (tn : Int) (ad : Nat) (TS : Int) (TC : Int) (TW : Int) (TL : Int) (TB : Int) (tl : Int → Int) (htn : 0 ≤ tn ∧ tn ≤ 200) (htf : ∀ i : Int, 0 ≤ i → i < tn → 0 ≤ tf i ∧ tf i ≤ 255) (hbe : 0 ≤ be ∧ be ≤ tn) : Met l yX4_readShape wsX4_readShape rmX4_readShape (wrP G [.ref hr0] [(hr0, .inr (4, [.ref hx0, .ref hd0, .int (zI pl), .int (zI be), .int (zI to), .int (zI nu), .int (zI it), .int (zI lt), .int (zI bt)])), (hx0, .inr (6, [.ref ax, .int (zI tn)])), (ax, .inl (G.2.1, 200, .inl (aZ tf))), (hd0, .inr (0, [.int (zI TS), .int (zI TC), .int (zI TW), .int (zI TL), .int (zI TB), .ref ad])), (ad, .inl (G.2.1, 12, .inl (aZ tl)))]) (wrQ G [(hr0, .inr (4, [.ref hx0, .ref hd0, .int (zI pl), .int (zI be), .int (zI to), .int (zI nu), .int (zI it), .int (zI lt), .int (zI bt)])), (hx0, .inr (6, [.ref ax, .int (zI tn)])), (ax, .inl (G.2.1, 200, .inl (aZ tf))), (hd0, .inr (0, [.int (zI TS), .int (zI TC), .int (zI TW), .int (zI TL), .int (zI TB), .ref ad])), (ad, .inl (G.2.1, 12, .inl (aZ tl)))] (fun (r_ : Int32) (u : Int × Int × Int × Int × Int × Int × Int) => match u with | (pl2, be2, to2, nu2, TS2, TC2, TW2) => r_ = zI (if ((tkK tf tn be = -2 ∧ 2 ≤ tkV tf tn be ∧ tkV tf tn be ≤ 6) ∧ (tkK tf tn (tkE tf tn be) = -2 ∧ 1 ≤ tkV tf tn (tkE tf tn be) ∧ tkV tf tn (tkE tf tn be) ≤ 2)) then 1 else 0) ∧ ((((tkK tf tn be = -2 ∧ 2 ≤ tkV tf tn be ∧ tkV tf tn be ≤ 6) ∧ (tkK tf tn (tkE tf tn be) = -2 ∧ 1 ≤ tkV tf tn (tkE tf tn be) ∧ tkV tf tn (tkE tf tn be) ≤ 2)) → be2 = tkE tf tn (tkE tf tn be) ∧ TS2 = tkV tf tn be ∧ TC2 = tkV tf tn (tkE tf tn be) ∧ TW2 = tkV tf tn be * tkV tf tn (tkE tf tn be)) ∧ (¬ (tkK tf tn be = -2 ∧ 2 ≤ tkV tf tn be ∧ tkV tf tn be ≤ 6) → pl2 = tkS tf tn be) ∧ ((tkK tf tn be = -2 ∧ 2 ≤ tkV tf tn be ∧ tkV tf tn be ≤ 6) → ¬ (tkK tf tn (tkE tf tn be) = -2 ∧ 1 ≤ tkV tf tn (tkE tf tn be) ∧ tkV tf tn (tkE tf tn be) ≤ 2) → pl2 = tkS tf tn (tkE tf tn be)) ∧ (0 ≤ be2 ∧ be2 ≤ tn))) (fun (u : Int × Int × Int × Int × Int × Int × Int) => match u with | (pl2, be2, to2, nu2, TS2, TC2, TW2) => [(hr0, .inr (4, [.ref hx0, .ref hd0, .int (zI pl2), .int (zI be2), .int (zI to2), .int (zI nu2), .int (zI it), .int (zI lt), .int (zI bt)])), (hx0, .inr (6, [.ref ax, .int (zI tn)])), (ax, .inl (G.2.1, 200, .inl (aZ tf))), (hd0, .inr (0, [.int (zI TS2), .int (zI TC2), .int (zI TW2), .int (zI TL), .int (zI TB), .ref ad])), (ad, .inl (G.2.1, 12, .inl (aZ tl)))])) 0 0 (wrA [(hr0, .inr (4, [.ref hx0, .ref hd0, .int (zI pl), .int (zI be), .int (zI to), .int (zI nu), .int (zI it), .int (zI lt), .int (zI bt)])), (hx0, .inr (6, [.ref ax, .int (zI tn)])), (ax, .inl (G.2.1, 200, .inl (aZ tf))), (hd0, .inr (0, [.int (zI TS), .int (zI TC), .int (zI TW), .int (zI TL), .int (zI TB), .ref ad])), (ad, .inl (G.2.1, 12, .inl (aZ tl)))]) := by
  refine wr_ofW (cc := cX4_readShape) (maxL := 2) (ty := .boolean) (by decide) rfl (Nat.le_of_ble_eq_true rfl) ?_
  intro p e s m below meth c Q A hx hb hml hown hts hK hret H locs hP hD hS ls hl
  have hown : s.vm.findClass RX4 = some m.cls := hown
  have hl : lv_has ls 2 [(0, .ref hr0)] := hl
  have f68 := hts (.fieldLink RX4 68 "QuarterTurns$Reader" "number" "I") (by decide +kernel)
  have i4 : ∀ w ∈ wsX40, w ∈ wsX4_readShape := fun w h => List.mem_cons_of_mem _ (List.mem_append_left _ (List.mem_append_left _ (List.mem_append_right _ h)))
  have f12 := hts (.fieldLink RX4 12 "QuarterTurns$Reader" "told" "LQuarterTurns$Bed;") (by decide +kernel)
  refine lv_aload_n hx hb dX4_readShape_0 rfl (lv_at hl 0 rfl) ?_
  refine lv_iconst (v := zI 2) hx hb dX4_readShape_1 rfl ?_
  refine lv_bipush (v := zI 6) hx hb dX4_readShape_2 (by decide) ?_
  refine z_wV (As := [.int (zI 2), .int (zI 6)]) (rest := []) ⟨hx, hb, hml, hown, hts⟩ (c_X4_isNumber l G hr0 hd0 pl be to nu it lt bt hx0 ax tf tn 2 6 (by first | assumption | omega) (by first | assumption | omega) (by first | assumption | omega) (by first | assumption | omega)) (cwV 2 hts gX4_readShape_X4_isNumber rfl rfl rfl pd_X4_isNumber ⟨(Nat.le_of_ble_eq_true rfl), (Nat.le_of_ble_eq_true rfl)⟩) hK hP hD hS [0, 1, 2] (by decide) rfl rfl rfl rfl (fun _ => rfl) rfl hl.1 rfl (Nat.le_of_ble_eq_true rfl) dX4_readShape_4 ⟨Nat.zero_le _, Nat.zero_le _⟩ (fun r_ u_ H locs hw_5 hP hD hS => ?_)
  obtain ⟨pl2_1, be2_2, to2_3, nu2_4⟩ := u_
  obtain ⟨rfl, hw_5⟩ := hw_5
  try dsimp only at hw_5
  obtain ⟨rfl, rfl, rfl, hnu_6⟩ := hw_5
  have hP : kP G [(hr0, .inr (4, [.ref hx0, .ref hd0, .int (zI (tkS tf tn be)), .int (zI (tkE tf tn be)), .int (zI (tkK tf tn be)), .int (zI nu2_4), .int (zI it), .int (zI lt), .int (zI bt)])), (hx0, .inr (6, [.ref ax, .int (zI tn)])), (ax, .inl (G.2.1, 200, .inl (aZ tf))), (hd0, .inr (0, [.int (zI TS), .int (zI TC), .int (zI TW), .int (zI TL), .int (zI TB), .ref ad])), (ad, .inl (G.2.1, 12, .inl (aZ tl)))] H := hP
  have hD : va_D A [(hr0, .inr (4, [.ref hx0, .ref hd0, .int (zI (tkS tf tn be)), .int (zI (tkE tf tn be)), .int (zI (tkK tf tn be)), .int (zI nu2_4), .int (zI it), .int (zI lt), .int (zI bt)])), (hx0, .inr (6, [.ref ax, .int (zI tn)])), (ax, .inl (G.2.1, 200, .inl (aZ tf))), (hd0, .inr (0, [.int (zI TS), .int (zI TC), .int (zI TW), .int (zI TL), .int (zI TB), .ref ad])), (ad, .inl (G.2.1, 12, .inl (aZ tl)))] := hD
  have hq_7 := tkS_rng (f := tf) (n := tn) (p := be) (by omega)
  have hq_8 := tkE_rng (f := tf) (n := tn) (p := be) (by omega)
  have hq_9 := tkK_rng (f := tf) (n := tn) (p := be) (by omega) (by first | assumption | omega)
  have hq_10 := tkV_rng (f := tf) (n := tn) (p := be)
  refine z_ifne_b (tgt := 12) hx hb dX4_readShape_7 (by decide) (fun c_11 => ?_) (fun c_11 => ?_)
  · have hn1 := hnu_6 (by omega)
    refine lv_aload_n hx hb dX4_readShape_12 rfl (lv_at hl 0 rfl) ?_
    refine va_get (ci := 4) (v := .int (zI nu2_4)) (C := RX4) (T := TX4) (N := 9) hx hb hts i4 hown hK hP 0 rfl rfl 5 (by decide) f68 (fun _ h9 => h9) rfl dX4_readShape_13 ?_
    refine lv_istore_n (lv' := [(1, .int (zI nu2_4)), (0, .ref hr0)]) hx hb dX4_readShape_16 rfl hl (by decide) rfl (fun ls hl => ?_)
    refine lv_aload_n hx hb dX4_readShape_17 rfl (lv_at hl 1 rfl) ?_
    refine lv_iconst (v := zI 1) hx hb dX4_readShape_18 rfl ?_
    refine lv_iconst (v := zI 2) hx hb dX4_readShape_19 rfl ?_
    refine z_wV (As := [.int (zI 1), .int (zI 2)]) (rest := []) ⟨hx, hb, hml, hown, hts⟩ (c_X4_isNumber l G hr0 hd0 (tkS tf tn be) (tkE tf tn be) (tkK tf tn be) nu2_4 it lt bt hx0 ax tf tn 1 2 (by first | assumption | omega) (by first | assumption | omega) (by first | assumption | omega) (by first | assumption | omega)) (cwV 2 hts gX4_readShape_X4_isNumber rfl rfl rfl pd_X4_isNumber ⟨(Nat.le_of_ble_eq_true rfl), (Nat.le_of_ble_eq_true rfl)⟩) hK hP hD hS [0, 1, 2] (by decide) rfl rfl rfl rfl (fun _ => rfl) rfl hl.1 rfl (Nat.le_of_ble_eq_true rfl) dX4_readShape_20 ⟨Nat.zero_le _, Nat.zero_le _⟩ (fun r_ u_ H locs hw_16 hP hD hS => ?_)
    obtain ⟨pl2_12, be2_13, to2_14, nu2_15⟩ := u_
    obtain ⟨rfl, hw_16⟩ := hw_16
    try dsimp only at hw_16
    obtain ⟨rfl, rfl, rfl, hnu_17⟩ := hw_16
    have hP : kP G [(hr0, .inr (4, [.ref hx0, .ref hd0, .int (zI (tkS tf tn (tkE tf tn be))), .int (zI (tkE tf tn (tkE tf tn be))), .int (zI (tkK tf tn (tkE tf tn be))), .int (zI nu2_15), .int (zI it), .int (zI lt), .int (zI bt)])), (hx0, .inr (6, [.ref ax, .int (zI tn)])), (ax, .inl (G.2.1, 200, .inl (aZ tf))), (hd0, .inr (0, [.int (zI TS), .int (zI TC), .int (zI TW), .int (zI TL), .int (zI TB), .ref ad])), (ad, .inl (G.2.1, 12, .inl (aZ tl)))] H := hP
    have hD : va_D A [(hr0, .inr (4, [.ref hx0, .ref hd0, .int (zI (tkS tf tn (tkE tf tn be))), .int (zI (tkE tf tn (tkE tf tn be))), .int (zI (tkK tf tn (tkE tf tn be))), .int (zI nu2_15), .int (zI it), .int (zI lt), .int (zI bt)])), (hx0, .inr (6, [.ref ax, .int (zI tn)])), (ax, .inl (G.2.1, 200, .inl (aZ tf))), (hd0, .inr (0, [.int (zI TS), .int (zI TC), .int (zI TW), .int (zI TL), .int (zI TB), .ref ad])), (ad, .inl (G.2.1, 12, .inl (aZ tl)))] := hD
    have hq_18 := tkS_rng (f := tf) (n := tn) (p := (tkE tf tn be)) (by omega)
    have hq_19 := tkE_rng (f := tf) (n := tn) (p := (tkE tf tn be)) (by omega)
    have hq_20 := tkK_rng (f := tf) (n := tn) (p := (tkE tf tn be)) (by omega) (by first | assumption | omega)
    have hq_21 := tkV_rng (f := tf) (n := tn) (p := (tkE tf tn be))
    refine z_ifne_b (tgt := 28) hx hb dX4_readShape_23 (by decide) (fun c_22 => ?_) (fun c_22 => ?_)
    · have hn2 := hnu_17 (by omega)
      refine lv_aload_n hx hb dX4_readShape_28 rfl (lv_at hl 1 rfl) ?_
      refine va_get (ci := 4) (v := .ref hd0) (C := RX4) (T := TX4) (N := 9) hx hb hts i4 hown hK hP 0 rfl rfl 1 (by decide) f12 (fun _ h9 => h9) rfl dX4_readShape_29 ?_
      refine lv_iload_n hx hb dX4_readShape_32 rfl (lv_at hl 0 rfl) ?_
      refine lv_aload_n hx hb dX4_readShape_33 rfl (lv_at hl 1 rfl) ?_
      refine va_get (ci := 4) (v := .int (zI nu2_15)) (C := RX4) (T := TX4) (N := 9) hx hb hts i4 hown hK hP 0 rfl rfl 5 (by decide) f68 (fun _ h9 => h9) rfl dX4_readShape_34 ?_
      refine z_wVv (As := [.int (zI nu2_4), .int (zI nu2_15)]) (rest := []) ⟨hx, hb, hml, hown, hts⟩ (c_X0_shape l G hd0 ad TS TC TW TL TB nu2_4 nu2_15 ) (cwV 2 hts gX4_readShape_X0_shape rfl rfl rfl pd_X0_shape ⟨(Nat.le_of_ble_eq_true rfl), (Nat.le_of_ble_eq_true rfl)⟩) hK hP hD hS [3] (by decide) rfl rfl rfl rfl (fun _ => rfl) rfl hl.1 rfl (Nat.le_of_ble_eq_true rfl) dX4_readShape_37 ⟨Nat.zero_le _, Nat.zero_le _⟩ (fun u_ H locs hw_23 hP hD hS => ?_)
      try dsimp only at hw_23
      have hP : kP G [(hr0, .inr (4, [.ref hx0, .ref hd0, .int (zI (tkS tf tn (tkE tf tn be))), .int (zI (tkE tf tn (tkE tf tn be))), .int (zI (tkK tf tn (tkE tf tn be))), .int (zI nu2_15), .int (zI it), .int (zI lt), .int (zI bt)])), (hx0, .inr (6, [.ref ax, .int (zI tn)])), (ax, .inl (G.2.1, 200, .inl (aZ tf))), (hd0, .inr (0, [.int (zI nu2_4), .int (zI nu2_15), .int (zI (nu2_4 * nu2_15)), .int (zI TL), .int (zI TB), .ref ad])), (ad, .inl (G.2.1, 12, .inl (aZ tl)))] H := hP
      have hD : va_D A [(hr0, .inr (4, [.ref hx0, .ref hd0, .int (zI (tkS tf tn (tkE tf tn be))), .int (zI (tkE tf tn (tkE tf tn be))), .int (zI (tkK tf tn (tkE tf tn be))), .int (zI nu2_15), .int (zI it), .int (zI lt), .int (zI bt)])), (hx0, .inr (6, [.ref ax, .int (zI tn)])), (ax, .inl (G.2.1, 200, .inl (aZ tf))), (hd0, .inr (0, [.int (zI nu2_4), .int (zI nu2_15), .int (zI (nu2_4 * nu2_15)), .int (zI TL), .int (zI TB), .ref ad])), (ad, .inl (G.2.1, 12, .inl (aZ tl)))] := hD
      refine lv_iconst (v := zI 1) hx hb dX4_readShape_40 rfl ?_
      exact hret H locs ls 41 _ (tkS tf tn (tkE tf tn be), tkE tf tn (tkE tf tn be), tkK tf tn (tkE tf tn be), nu2_15, nu2_4, nu2_15, nu2_4 * nu2_15) (by decide) ⟨congrArg zI (if_pos (by omega)).symm, by refine ⟨fun h => ⟨rfl, hn1, hn2, by rw [hn1, hn2]⟩, fun h => ?_, fun h1 h2 => ?_, ?_⟩ <;> omega⟩ hP hS dX4_readShape_41
    · refine lv_iconst (v := zI 0) hx hb dX4_readShape_26 rfl ?_
      exact hret H locs ls 27 _ (tkS tf tn (tkE tf tn be), tkE tf tn (tkE tf tn be), tkK tf tn (tkE tf tn be), nu2_15, TS, TC, TW) (by decide) ⟨congrArg zI (if_neg (by omega)).symm, by refine ⟨fun h => ?_, fun h => ?_, fun h1 h2 => rfl, ?_⟩ <;> omega⟩ hP hS dX4_readShape_27
  · refine lv_iconst (v := zI 0) hx hb dX4_readShape_10 rfl ?_
    exact hret H locs ls 11 _ (tkS tf tn be, tkE tf tn be, tkK tf tn be, nu2_4, TS, TC, TW) (by decide) ⟨congrArg zI (if_neg (by omega)).symm, by refine ⟨fun h => ?_, fun h => rfl, fun h1 h2 => ?_, ?_⟩ <;> omega⟩ hP hS dX4_readShape_11
theorem pd_X4_readLoad : yX4_readLoad.cls = RX4 ∧ yX4_readLoad.cls ≠ "java/lang/invoke/MethodHandle" ∧ yX4_readLoad.cls ≠ "java/lang/invoke/VarHandle" ∧ (parseMethodDescriptor yX4_readLoad.desc).map (fun d => d.parameters.length) = some 0 := by decide +kernel
abbrev rmX4_readLoad : Room := { frames := 3, cells := 0, slots := 0, locals := 64 }
set_option maxHeartbeats 4000000 in
set_option maxRecDepth 100000 in
theorem c_X4_readLoad (l : Launch) (G : CX) (hr0 : Nat) (hd0 : Nat) (pl : Int) (be : Int) (to : Int) (nu : Int) (it : Int) (lt : Int) (bt : Int) (hx0 : Nat) (ax : Nat) (tf : Int → Int) (tn : Int) (ad : Nat) (TS : Int) (TC : Int) (TW : Int) (TL : Int) (TB : Int) (tl : Int → Int) (htn : 0 ≤ tn ∧ tn ≤ 200) (htf : ∀ i : Int, 0 ≤ i → i < tn → 0 ≤ tf i ∧ tf i ≤ 255) (hbe : 0 ≤ be ∧ be ≤ tn) (hTW : 1 ≤ TW ∧ TW ≤ 12) : Met l yX4_readLoad wsX4_readLoad rmX4_readLoad (wrP G [.ref hr0] [(hr0, .inr (4, [.ref hx0, .ref hd0, .int (zI pl), .int (zI be), .int (zI to), .int (zI nu), .int (zI it), .int (zI lt), .int (zI bt)])), (hx0, .inr (6, [.ref ax, .int (zI tn)])), (ax, .inl (G.2.1, 200, .inl (aZ tf))), (hd0, .inr (0, [.int (zI TS), .int (zI TC), .int (zI TW), .int (zI TL), .int (zI TB), .ref ad])), (ad, .inl (G.2.1, 12, .inl (aZ tl)))]) (wrQ G [(hr0, .inr (4, [.ref hx0, .ref hd0, .int (zI pl), .int (zI be), .int (zI to), .int (zI nu), .int (zI it), .int (zI lt), .int (zI bt)])), (hx0, .inr (6, [.ref ax, .int (zI tn)])), (ax, .inl (G.2.1, 200, .inl (aZ tf))), (hd0, .inr (0, [.int (zI TS), .int (zI TC), .int (zI TW), .int (zI TL), .int (zI TB), .ref ad])), (ad, .inl (G.2.1, 12, .inl (aZ tl)))] (fun (r_ : Int32) (u : Int × Int × Int × Int × (Int → Int)) => match u with | (pl2, be2, to2, nu2, tl2) => r_ = zI (if ((tkK tf tn be = -2 ∧ 0 ≤ tkV tf tn be ∧ tkV tf tn be ≤ TW - 1) ∧ (tkK tf tn (tkE tf tn be) = -2 ∧ 1 ≤ tkV tf tn (tkE tf tn be) ∧ tkV tf tn (tkE tf tn be) ≤ 9)) then 1 else 0) ∧ ((((tkK tf tn be = -2 ∧ 0 ≤ tkV tf tn be ∧ tkV tf tn be ≤ TW - 1) ∧ (tkK tf tn (tkE tf tn be) = -2 ∧ 1 ≤ tkV tf tn (tkE tf tn be) ∧ tkV tf tn (tkE tf tn be) ≤ 9)) → be2 = tkE tf tn (tkE tf tn be) ∧ tl2 = uZ tl (tkV tf tn be) (tkV tf tn (tkE tf tn be))) ∧ (¬ (tkK tf tn be = -2 ∧ 0 ≤ tkV tf tn be ∧ tkV tf tn be ≤ TW - 1) → pl2 = tkS tf tn be) ∧ ((tkK tf tn be = -2 ∧ 0 ≤ tkV tf tn be ∧ tkV tf tn be ≤ TW - 1) → ¬ (tkK tf tn (tkE tf tn be) = -2 ∧ 1 ≤ tkV tf tn (tkE tf tn be) ∧ tkV tf tn (tkE tf tn be) ≤ 9) → pl2 = tkS tf tn (tkE tf tn be)) ∧ (0 ≤ be2 ∧ be2 ≤ tn))) (fun (u : Int × Int × Int × Int × (Int → Int)) => match u with | (pl2, be2, to2, nu2, tl2) => [(hr0, .inr (4, [.ref hx0, .ref hd0, .int (zI pl2), .int (zI be2), .int (zI to2), .int (zI nu2), .int (zI it), .int (zI lt), .int (zI bt)])), (hx0, .inr (6, [.ref ax, .int (zI tn)])), (ax, .inl (G.2.1, 200, .inl (aZ tf))), (hd0, .inr (0, [.int (zI TS), .int (zI TC), .int (zI TW), .int (zI TL), .int (zI TB), .ref ad])), (ad, .inl (G.2.1, 12, .inl (aZ tl2)))])) 0 0 (wrA [(hr0, .inr (4, [.ref hx0, .ref hd0, .int (zI pl), .int (zI be), .int (zI to), .int (zI nu), .int (zI it), .int (zI lt), .int (zI bt)])), (hx0, .inr (6, [.ref ax, .int (zI tn)])), (ax, .inl (G.2.1, 200, .inl (aZ tf))), (hd0, .inr (0, [.int (zI TS), .int (zI TC), .int (zI TW), .int (zI TL), .int (zI TB), .ref ad])), (ad, .inl (G.2.1, 12, .inl (aZ tl)))]) := by
  refine wr_ofW (cc := cX4_readLoad) (maxL := 2) (ty := .boolean) (by decide) rfl (Nat.le_of_ble_eq_true rfl) ?_
  intro p e s m below meth c Q A hx hb hml hown hts hK hret H locs hP hD hS ls hl
  have hown : s.vm.findClass RX4 = some m.cls := hown
  have hl : lv_has ls 2 [(0, .ref hr0)] := hl
  have f12 := hts (.fieldLink RX4 12 "QuarterTurns$Reader" "told" "LQuarterTurns$Bed;") (by decide +kernel)
  have i4 : ∀ w ∈ wsX40, w ∈ wsX4_readLoad := fun w h => List.mem_cons_of_mem _ (List.mem_append_left _ (List.mem_append_left _ (List.mem_append_right _ h)))
  have f94 := hts (.fieldLink RX4 94 "QuarterTurns$Bed" "ways" "I") (by decide +kernel)
  have i0 : ∀ w ∈ wsX00, w ∈ wsX4_readLoad := fun w h => List.mem_cons_of_mem _ (List.mem_append_left _ (List.mem_append_right _ h))
  have f68 := hts (.fieldLink RX4 68 "QuarterTurns$Reader" "number" "I") (by decide +kernel)
  have f97 := hts (.fieldLink RX4 97 "QuarterTurns$Bed" "loads" "[I") (by decide +kernel)
  refine lv_aload_n hx hb dX4_readLoad_0 rfl (lv_at hl 0 rfl) ?_
  refine lv_iconst (v := zI 0) hx hb dX4_readLoad_1 rfl ?_
  refine lv_aload_n hx hb dX4_readLoad_2 rfl (lv_at hl 0 rfl) ?_
  refine va_get (ci := 4) (v := .ref hd0) (C := RX4) (T := TX4) (N := 9) hx hb hts i4 hown hK hP 0 rfl rfl 1 (by decide) f12 (fun _ h9 => h9) rfl dX4_readLoad_3 ?_
  refine va_get (ci := 0) (v := .int (zI TW)) (C := RX0) (T := TX0) (N := 6) hx hb hts i0 hown hK hP 3 rfl rfl 2 (by decide) f94 (fun _ h9 => h9) rfl dX4_readLoad_6 ?_
  refine lv_iconst (v := zI 1) hx hb dX4_readLoad_9 rfl ?_
  refine z_isub hx hb dX4_readLoad_10 ?_
  refine z_wV (As := [.int (zI 0), .int (zI (TW - 1))]) (rest := []) ⟨hx, hb, hml, hown, hts⟩ (c_X4_isNumber l G hr0 hd0 pl be to nu it lt bt hx0 ax tf tn 0 (TW - 1) (by first | assumption | omega) (by first | assumption | omega) (by first | assumption | omega) (by first | assumption | omega)) (cwV 2 hts gX4_readLoad_X4_isNumber rfl rfl rfl pd_X4_isNumber ⟨(Nat.le_of_ble_eq_true rfl), (Nat.le_of_ble_eq_true rfl)⟩) hK hP hD hS [0, 1, 2] (by decide) rfl rfl rfl rfl (fun _ => rfl) rfl hl.1 rfl (Nat.le_of_ble_eq_true rfl) dX4_readLoad_11 ⟨Nat.zero_le _, Nat.zero_le _⟩ (fun r_ u_ H locs hw_5 hP hD hS => ?_)
  obtain ⟨pl2_1, be2_2, to2_3, nu2_4⟩ := u_
  obtain ⟨rfl, hw_5⟩ := hw_5
  try dsimp only at hw_5
  obtain ⟨rfl, rfl, rfl, hnu_6⟩ := hw_5
  have hP : kP G [(hr0, .inr (4, [.ref hx0, .ref hd0, .int (zI (tkS tf tn be)), .int (zI (tkE tf tn be)), .int (zI (tkK tf tn be)), .int (zI nu2_4), .int (zI it), .int (zI lt), .int (zI bt)])), (hx0, .inr (6, [.ref ax, .int (zI tn)])), (ax, .inl (G.2.1, 200, .inl (aZ tf))), (hd0, .inr (0, [.int (zI TS), .int (zI TC), .int (zI TW), .int (zI TL), .int (zI TB), .ref ad])), (ad, .inl (G.2.1, 12, .inl (aZ tl)))] H := hP
  have hD : va_D A [(hr0, .inr (4, [.ref hx0, .ref hd0, .int (zI (tkS tf tn be)), .int (zI (tkE tf tn be)), .int (zI (tkK tf tn be)), .int (zI nu2_4), .int (zI it), .int (zI lt), .int (zI bt)])), (hx0, .inr (6, [.ref ax, .int (zI tn)])), (ax, .inl (G.2.1, 200, .inl (aZ tf))), (hd0, .inr (0, [.int (zI TS), .int (zI TC), .int (zI TW), .int (zI TL), .int (zI TB), .ref ad])), (ad, .inl (G.2.1, 12, .inl (aZ tl)))] := hD
  have hq_7 := tkS_rng (f := tf) (n := tn) (p := be) (by omega)
  have hq_8 := tkE_rng (f := tf) (n := tn) (p := be) (by omega)
  have hq_9 := tkK_rng (f := tf) (n := tn) (p := be) (by omega) (by first | assumption | omega)
  have hq_10 := tkV_rng (f := tf) (n := tn) (p := be)
  refine z_ifne_b (tgt := 19) hx hb dX4_readLoad_14 (by decide) (fun c_11 => ?_) (fun c_11 => ?_)
  · have hn1 := hnu_6 (by omega)
    refine lv_aload_n hx hb dX4_readLoad_19 rfl (lv_at hl 0 rfl) ?_
    refine va_get (ci := 4) (v := .int (zI nu2_4)) (C := RX4) (T := TX4) (N := 9) hx hb hts i4 hown hK hP 0 rfl rfl 5 (by decide) f68 (fun _ h9 => h9) rfl dX4_readLoad_20 ?_
    refine lv_istore_n (lv' := [(1, .int (zI nu2_4)), (0, .ref hr0)]) hx hb dX4_readLoad_23 rfl hl (by decide) rfl (fun ls hl => ?_)
    refine lv_aload_n hx hb dX4_readLoad_24 rfl (lv_at hl 1 rfl) ?_
    refine lv_iconst (v := zI 1) hx hb dX4_readLoad_25 rfl ?_
    refine lv_bipush (v := zI 9) hx hb dX4_readLoad_26 (by decide) ?_
    refine z_wV (As := [.int (zI 1), .int (zI 9)]) (rest := []) ⟨hx, hb, hml, hown, hts⟩ (c_X4_isNumber l G hr0 hd0 (tkS tf tn be) (tkE tf tn be) (tkK tf tn be) nu2_4 it lt bt hx0 ax tf tn 1 9 (by first | assumption | omega) (by first | assumption | omega) (by first | assumption | omega) (by first | assumption | omega)) (cwV 2 hts gX4_readLoad_X4_isNumber rfl rfl rfl pd_X4_isNumber ⟨(Nat.le_of_ble_eq_true rfl), (Nat.le_of_ble_eq_true rfl)⟩) hK hP hD hS [0, 1, 2] (by decide) rfl rfl rfl rfl (fun _ => rfl) rfl hl.1 rfl (Nat.le_of_ble_eq_true rfl) dX4_readLoad_28 ⟨Nat.zero_le _, Nat.zero_le _⟩ (fun r_ u_ H locs hw_16 hP hD hS => ?_)
    obtain ⟨pl2_12, be2_13, to2_14, nu2_15⟩ := u_
    obtain ⟨rfl, hw_16⟩ := hw_16
    try dsimp only at hw_16
    obtain ⟨rfl, rfl, rfl, hnu_17⟩ := hw_16
    have hP : kP G [(hr0, .inr (4, [.ref hx0, .ref hd0, .int (zI (tkS tf tn (tkE tf tn be))), .int (zI (tkE tf tn (tkE tf tn be))), .int (zI (tkK tf tn (tkE tf tn be))), .int (zI nu2_15), .int (zI it), .int (zI lt), .int (zI bt)])), (hx0, .inr (6, [.ref ax, .int (zI tn)])), (ax, .inl (G.2.1, 200, .inl (aZ tf))), (hd0, .inr (0, [.int (zI TS), .int (zI TC), .int (zI TW), .int (zI TL), .int (zI TB), .ref ad])), (ad, .inl (G.2.1, 12, .inl (aZ tl)))] H := hP
    have hD : va_D A [(hr0, .inr (4, [.ref hx0, .ref hd0, .int (zI (tkS tf tn (tkE tf tn be))), .int (zI (tkE tf tn (tkE tf tn be))), .int (zI (tkK tf tn (tkE tf tn be))), .int (zI nu2_15), .int (zI it), .int (zI lt), .int (zI bt)])), (hx0, .inr (6, [.ref ax, .int (zI tn)])), (ax, .inl (G.2.1, 200, .inl (aZ tf))), (hd0, .inr (0, [.int (zI TS), .int (zI TC), .int (zI TW), .int (zI TL), .int (zI TB), .ref ad])), (ad, .inl (G.2.1, 12, .inl (aZ tl)))] := hD
    have hq_18 := tkS_rng (f := tf) (n := tn) (p := (tkE tf tn be)) (by omega)
    have hq_19 := tkE_rng (f := tf) (n := tn) (p := (tkE tf tn be)) (by omega)
    have hq_20 := tkK_rng (f := tf) (n := tn) (p := (tkE tf tn be)) (by omega) (by first | assumption | omega)
    have hq_21 := tkV_rng (f := tf) (n := tn) (p := (tkE tf tn be))
    refine z_ifne_b (tgt := 36) hx hb dX4_readLoad_31 (by decide) (fun c_22 => ?_) (fun c_22 => ?_)
    · have hn2 := hnu_17 (by omega)
      refine lv_aload_n hx hb dX4_readLoad_36 rfl (lv_at hl 1 rfl) ?_
      refine va_get (ci := 4) (v := .ref hd0) (C := RX4) (T := TX4) (N := 9) hx hb hts i4 hown hK hP 0 rfl rfl 1 (by decide) f12 (fun _ h9 => h9) rfl dX4_readLoad_37 ?_
      refine va_get (ci := 0) (v := .ref ad) (C := RX0) (T := TX0) (N := 6) hx hb hts i0 hown hK hP 3 rfl rfl 5 (by decide) f97 (fun _ h9 => h9) rfl dX4_readLoad_40 ?_
      refine lv_iload_n hx hb dX4_readLoad_43 rfl (lv_at hl 0 rfl) ?_
      refine lv_aload_n hx hb dX4_readLoad_44 rfl (lv_at hl 1 rfl) ?_
      refine va_get (ci := 4) (v := .int (zI nu2_15)) (C := RX4) (T := TX4) (N := 9) hx hb hts i4 hown hK hP 0 rfl rfl 5 (by decide) f68 (fun _ h9 => h9) rfl dX4_readLoad_45 ?_
      refine z_iast (n := 12) (f := tl) (i := nu2_4) (v := nu2_15) hx hb hK hP hD hS 4 rfl (by omega) dX4_readLoad_48 (fun H locs hP hD hS => ?_)
      have hP : kP G [(hr0, .inr (4, [.ref hx0, .ref hd0, .int (zI (tkS tf tn (tkE tf tn be))), .int (zI (tkE tf tn (tkE tf tn be))), .int (zI (tkK tf tn (tkE tf tn be))), .int (zI nu2_15), .int (zI it), .int (zI lt), .int (zI bt)])), (hx0, .inr (6, [.ref ax, .int (zI tn)])), (ax, .inl (G.2.1, 200, .inl (aZ tf))), (hd0, .inr (0, [.int (zI TS), .int (zI TC), .int (zI TW), .int (zI TL), .int (zI TB), .ref ad])), (ad, .inl (G.2.1, 12, .inl (aZ (uZ tl nu2_4 nu2_15))))] H := hP
      have hD : va_D A [(hr0, .inr (4, [.ref hx0, .ref hd0, .int (zI (tkS tf tn (tkE tf tn be))), .int (zI (tkE tf tn (tkE tf tn be))), .int (zI (tkK tf tn (tkE tf tn be))), .int (zI nu2_15), .int (zI it), .int (zI lt), .int (zI bt)])), (hx0, .inr (6, [.ref ax, .int (zI tn)])), (ax, .inl (G.2.1, 200, .inl (aZ tf))), (hd0, .inr (0, [.int (zI TS), .int (zI TC), .int (zI TW), .int (zI TL), .int (zI TB), .ref ad])), (ad, .inl (G.2.1, 12, .inl (aZ (uZ tl nu2_4 nu2_15))))] := hD
      refine lv_iconst (v := zI 1) hx hb dX4_readLoad_49 rfl ?_
      exact hret H locs ls 50 _ (tkS tf tn (tkE tf tn be), tkE tf tn (tkE tf tn be), tkK tf tn (tkE tf tn be), nu2_15, uZ tl nu2_4 nu2_15) (by decide) ⟨congrArg zI (if_pos (by omega)).symm, by refine ⟨fun h => ⟨rfl, by rw [hn1, hn2]⟩, fun h => ?_, fun h1 h2 => ?_, ?_⟩ <;> omega⟩ hP hS dX4_readLoad_50
    · refine lv_iconst (v := zI 0) hx hb dX4_readLoad_34 rfl ?_
      exact hret H locs ls 35 _ (tkS tf tn (tkE tf tn be), tkE tf tn (tkE tf tn be), tkK tf tn (tkE tf tn be), nu2_15, tl) (by decide) ⟨congrArg zI (if_neg (by omega)).symm, by refine ⟨fun h => ?_, fun h => ?_, fun h1 h2 => rfl, ?_⟩ <;> omega⟩ hP hS dX4_readLoad_35
  · refine lv_iconst (v := zI 0) hx hb dX4_readLoad_17 rfl ?_
    exact hret H locs ls 18 _ (tkS tf tn be, tkE tf tn be, tkK tf tn be, nu2_4, tl) (by decide) ⟨congrArg zI (if_neg (by omega)).symm, by refine ⟨fun h => ?_, fun h => rfl, fun h1 h2 => ?_, ?_⟩ <;> omega⟩ hP hS dX4_readLoad_18
theorem pd_X4_readLimit : yX4_readLimit.cls = RX4 ∧ yX4_readLimit.cls ≠ "java/lang/invoke/MethodHandle" ∧ yX4_readLimit.cls ≠ "java/lang/invoke/VarHandle" ∧ (parseMethodDescriptor yX4_readLimit.desc).map (fun d => d.parameters.length) = some 0 := by decide +kernel
abbrev rmX4_readLimit : Room := { frames := 3, cells := 0, slots := 0, locals := 64 }
set_option maxHeartbeats 4000000 in
set_option maxRecDepth 100000 in
theorem c_X4_readLimit (l : Launch) (G : CX) (hr0 : Nat) (hd0 : Nat) (pl : Int) (be : Int) (to : Int) (nu : Int) (it : Int) (lt : Int) (bt : Int) (hx0 : Nat) (ax : Nat) (tf : Int → Int) (tn : Int) (ad : Nat) (TS : Int) (TC : Int) (TW : Int) (TL : Int) (TB : Int) (tl : Int → Int) (htn : 0 ≤ tn ∧ tn ≤ 200) (htf : ∀ i : Int, 0 ≤ i → i < tn → 0 ≤ tf i ∧ tf i ≤ 255) (hbe : 0 ≤ be ∧ be ≤ tn) : Met l yX4_readLimit wsX4_readLimit rmX4_readLimit (wrP G [.ref hr0] [(hr0, .inr (4, [.ref hx0, .ref hd0, .int (zI pl), .int (zI be), .int (zI to), .int (zI nu), .int (zI it), .int (zI lt), .int (zI bt)])), (hx0, .inr (6, [.ref ax, .int (zI tn)])), (ax, .inl (G.2.1, 200, .inl (aZ tf))), (hd0, .inr (0, [.int (zI TS), .int (zI TC), .int (zI TW), .int (zI TL), .int (zI TB), .ref ad])), (ad, .inl (G.2.1, 12, .inl (aZ tl)))]) (wrQ G [(hr0, .inr (4, [.ref hx0, .ref hd0, .int (zI pl), .int (zI be), .int (zI to), .int (zI nu), .int (zI it), .int (zI lt), .int (zI bt)])), (hx0, .inr (6, [.ref ax, .int (zI tn)])), (ax, .inl (G.2.1, 200, .inl (aZ tf))), (hd0, .inr (0, [.int (zI TS), .int (zI TC), .int (zI TW), .int (zI TL), .int (zI TB), .ref ad])), (ad, .inl (G.2.1, 12, .inl (aZ tl)))] (fun (r_ : Int32) (u : Int × Int × Int × Int × Int × Int) => match u with | (pl2, be2, to2, nu2, lt2, TL2) => r_ = zI (if (tkK tf tn be = -2 ∧ 5 ≤ tkV tf tn be ∧ tkV tf tn be ≤ 99) then 1 else 0) ∧ (((tkK tf tn be = -2 ∧ 5 ≤ tkV tf tn be ∧ tkV tf tn be ≤ 99) → be2 = tkE tf tn be ∧ TL2 = tkV tf tn be ∧ lt2 = 1) ∧ (¬ (tkK tf tn be = -2 ∧ 5 ≤ tkV tf tn be ∧ tkV tf tn be ≤ 99) → pl2 = tkS tf tn be) ∧ (0 ≤ be2 ∧ be2 ≤ tn))) (fun (u : Int × Int × Int × Int × Int × Int) => match u with | (pl2, be2, to2, nu2, lt2, TL2) => [(hr0, .inr (4, [.ref hx0, .ref hd0, .int (zI pl2), .int (zI be2), .int (zI to2), .int (zI nu2), .int (zI it), .int (zI lt2), .int (zI bt)])), (hx0, .inr (6, [.ref ax, .int (zI tn)])), (ax, .inl (G.2.1, 200, .inl (aZ tf))), (hd0, .inr (0, [.int (zI TS), .int (zI TC), .int (zI TW), .int (zI TL2), .int (zI TB), .ref ad])), (ad, .inl (G.2.1, 12, .inl (aZ tl)))])) 0 0 (wrA [(hr0, .inr (4, [.ref hx0, .ref hd0, .int (zI pl), .int (zI be), .int (zI to), .int (zI nu), .int (zI it), .int (zI lt), .int (zI bt)])), (hx0, .inr (6, [.ref ax, .int (zI tn)])), (ax, .inl (G.2.1, 200, .inl (aZ tf))), (hd0, .inr (0, [.int (zI TS), .int (zI TC), .int (zI TW), .int (zI TL), .int (zI TB), .ref ad])), (ad, .inl (G.2.1, 12, .inl (aZ tl)))]) := by
  refine wr_ofW (cc := cX4_readLimit) (maxL := 1) (ty := .boolean) (by decide) rfl (Nat.le_of_ble_eq_true rfl) ?_
  intro p e s m below meth c Q A hx hb hml hown hts hK hret H locs hP hD hS ls hl
  have hown : s.vm.findClass RX4 = some m.cls := hown
  have hl : lv_has ls 1 [(0, .ref hr0)] := hl
  have f12 := hts (.fieldLink RX4 12 "QuarterTurns$Reader" "told" "LQuarterTurns$Bed;") (by decide +kernel)
  have i4 : ∀ w ∈ wsX40, w ∈ wsX4_readLimit := fun w h => List.mem_cons_of_mem _ (List.mem_append_left _ (List.mem_append_left _ (List.mem_append_right _ h)))
  have f68 := hts (.fieldLink RX4 68 "QuarterTurns$Reader" "number" "I") (by decide +kernel)
  have f100 := hts (.fieldLink RX4 100 "QuarterTurns$Bed" "limit" "I") (by decide +kernel)
  have i0 : ∀ w ∈ wsX00, w ∈ wsX4_readLimit := fun w h => List.mem_cons_of_mem _ (List.mem_append_left _ (List.mem_append_right _ h))
  have f32 := hts (.fieldLink RX4 32 "QuarterTurns$Reader" "limitTold" "Z") (by decide +kernel)
  refine lv_aload_n hx hb dX4_readLimit_0 rfl (lv_at hl 0 rfl) ?_
  refine lv_iconst (v := zI 5) hx hb dX4_readLimit_1 rfl ?_
  refine lv_bipush (v := zI 99) hx hb dX4_readLimit_2 (by decide) ?_
  refine z_wV (As := [.int (zI 5), .int (zI 99)]) (rest := []) ⟨hx, hb, hml, hown, hts⟩ (c_X4_isNumber l G hr0 hd0 pl be to nu it lt bt hx0 ax tf tn 5 99 (by first | assumption | omega) (by first | assumption | omega) (by first | assumption | omega) (by first | assumption | omega)) (cwV 2 hts gX4_readLimit_X4_isNumber rfl rfl rfl pd_X4_isNumber ⟨(Nat.le_of_ble_eq_true rfl), (Nat.le_of_ble_eq_true rfl)⟩) hK hP hD hS [0, 1, 2] (by decide) rfl rfl rfl rfl (fun _ => rfl) rfl hl.1 rfl (Nat.le_of_ble_eq_true rfl) dX4_readLimit_4 ⟨Nat.zero_le _, Nat.zero_le _⟩ (fun r_ u_ H locs hw_5 hP hD hS => ?_)
  obtain ⟨pl2_1, be2_2, to2_3, nu2_4⟩ := u_
  obtain ⟨rfl, hw_5⟩ := hw_5
  try dsimp only at hw_5
  obtain ⟨rfl, rfl, rfl, hnu_6⟩ := hw_5
  have hP : kP G [(hr0, .inr (4, [.ref hx0, .ref hd0, .int (zI (tkS tf tn be)), .int (zI (tkE tf tn be)), .int (zI (tkK tf tn be)), .int (zI nu2_4), .int (zI it), .int (zI lt), .int (zI bt)])), (hx0, .inr (6, [.ref ax, .int (zI tn)])), (ax, .inl (G.2.1, 200, .inl (aZ tf))), (hd0, .inr (0, [.int (zI TS), .int (zI TC), .int (zI TW), .int (zI TL), .int (zI TB), .ref ad])), (ad, .inl (G.2.1, 12, .inl (aZ tl)))] H := hP
  have hD : va_D A [(hr0, .inr (4, [.ref hx0, .ref hd0, .int (zI (tkS tf tn be)), .int (zI (tkE tf tn be)), .int (zI (tkK tf tn be)), .int (zI nu2_4), .int (zI it), .int (zI lt), .int (zI bt)])), (hx0, .inr (6, [.ref ax, .int (zI tn)])), (ax, .inl (G.2.1, 200, .inl (aZ tf))), (hd0, .inr (0, [.int (zI TS), .int (zI TC), .int (zI TW), .int (zI TL), .int (zI TB), .ref ad])), (ad, .inl (G.2.1, 12, .inl (aZ tl)))] := hD
  have hq_7 := tkS_rng (f := tf) (n := tn) (p := be) (by omega)
  have hq_8 := tkE_rng (f := tf) (n := tn) (p := be) (by omega)
  have hq_9 := tkK_rng (f := tf) (n := tn) (p := be) (by omega) (by first | assumption | omega)
  have hq_10 := tkV_rng (f := tf) (n := tn) (p := be)
  refine z_ifne_b (tgt := 12) hx hb dX4_readLimit_7 (by decide) (fun c_11 => ?_) (fun c_11 => ?_)
  · have hn1 := hnu_6 (by omega)
    refine lv_aload_n hx hb dX4_readLimit_12 rfl (lv_at hl 0 rfl) ?_
    refine va_get (ci := 4) (v := .ref hd0) (C := RX4) (T := TX4) (N := 9) hx hb hts i4 hown hK hP 0 rfl rfl 1 (by decide) f12 (fun _ h9 => h9) rfl dX4_readLimit_13 ?_
    refine lv_aload_n hx hb dX4_readLimit_16 rfl (lv_at hl 0 rfl) ?_
    refine va_get (ci := 4) (v := .int (zI nu2_4)) (C := RX4) (T := TX4) (N := 9) hx hb hts i4 hown hK hP 0 rfl rfl 5 (by decide) f68 (fun _ h9 => h9) rfl dX4_readLimit_17 ?_
    refine va_put (ci := 0) (v := .int (zI nu2_4)) (ty := .int) (C := RX0) (T := TX0) (N := 6) hx hb hts i0 tyX0 tyX0_ok nmX0 hown hK hP hD hS 3 rfl rfl 3 (by decide) f100 (fun _ h9 => h9) rfl (tyX0_ok 3 (by decide)) rfl rfl (Nat.le_of_ble_eq_true rfl) dX4_readLimit_20 (fun H locs hP hD hS => ?_)
    have hP : kP G [(hr0, .inr (4, [.ref hx0, .ref hd0, .int (zI (tkS tf tn be)), .int (zI (tkE tf tn be)), .int (zI (tkK tf tn be)), .int (zI nu2_4), .int (zI it), .int (zI lt), .int (zI bt)])), (hx0, .inr (6, [.ref ax, .int (zI tn)])), (ax, .inl (G.2.1, 200, .inl (aZ tf))), (hd0, .inr (0, [.int (zI TS), .int (zI TC), .int (zI TW), .int (zI nu2_4), .int (zI TB), .ref ad])), (ad, .inl (G.2.1, 12, .inl (aZ tl)))] H := hP
    have hD : va_D A [(hr0, .inr (4, [.ref hx0, .ref hd0, .int (zI (tkS tf tn be)), .int (zI (tkE tf tn be)), .int (zI (tkK tf tn be)), .int (zI nu2_4), .int (zI it), .int (zI lt), .int (zI bt)])), (hx0, .inr (6, [.ref ax, .int (zI tn)])), (ax, .inl (G.2.1, 200, .inl (aZ tf))), (hd0, .inr (0, [.int (zI TS), .int (zI TC), .int (zI TW), .int (zI nu2_4), .int (zI TB), .ref ad])), (ad, .inl (G.2.1, 12, .inl (aZ tl)))] := hD
    refine lv_aload_n hx hb dX4_readLimit_23 rfl (lv_at hl 0 rfl) ?_
    refine lv_iconst (v := zI 1) hx hb dX4_readLimit_24 rfl ?_
    refine va_put (ci := 4) (v := .int (zI 1)) (ty := .boolean) (C := RX4) (T := TX4) (N := 9) hx hb hts i4 tyX4 tyX4_ok nmX4 hown hK hP hD hS 0 rfl rfl 7 (by decide) f32 (fun _ h9 => h9) rfl (tyX4_ok 7 (by decide)) (by decide) (by decide) (Nat.le_of_ble_eq_true rfl) dX4_readLimit_25 (fun H locs hP hD hS => ?_)
    have hP : kP G [(hr0, .inr (4, [.ref hx0, .ref hd0, .int (zI (tkS tf tn be)), .int (zI (tkE tf tn be)), .int (zI (tkK tf tn be)), .int (zI nu2_4), .int (zI it), .int (zI 1), .int (zI bt)])), (hx0, .inr (6, [.ref ax, .int (zI tn)])), (ax, .inl (G.2.1, 200, .inl (aZ tf))), (hd0, .inr (0, [.int (zI TS), .int (zI TC), .int (zI TW), .int (zI nu2_4), .int (zI TB), .ref ad])), (ad, .inl (G.2.1, 12, .inl (aZ tl)))] H := hP
    have hD : va_D A [(hr0, .inr (4, [.ref hx0, .ref hd0, .int (zI (tkS tf tn be)), .int (zI (tkE tf tn be)), .int (zI (tkK tf tn be)), .int (zI nu2_4), .int (zI it), .int (zI 1), .int (zI bt)])), (hx0, .inr (6, [.ref ax, .int (zI tn)])), (ax, .inl (G.2.1, 200, .inl (aZ tf))), (hd0, .inr (0, [.int (zI TS), .int (zI TC), .int (zI TW), .int (zI nu2_4), .int (zI TB), .ref ad])), (ad, .inl (G.2.1, 12, .inl (aZ tl)))] := hD
    refine lv_iconst (v := zI 1) hx hb dX4_readLimit_28 rfl ?_
    exact hret H locs ls 29 _ (tkS tf tn be, tkE tf tn be, tkK tf tn be, nu2_4, 1, nu2_4) (by decide) ⟨congrArg zI (if_pos (by omega)).symm, by refine ⟨fun h => ⟨rfl, hn1, rfl⟩, fun h => ?_, ?_⟩ <;> omega⟩ hP hS dX4_readLimit_29
  · refine lv_iconst (v := zI 0) hx hb dX4_readLimit_10 rfl ?_
    exact hret H locs ls 11 _ (tkS tf tn be, tkE tf tn be, tkK tf tn be, nu2_4, lt, TL) (by decide) ⟨congrArg zI (if_neg (by omega)).symm, by refine ⟨fun h => ?_, fun h => rfl, ?_⟩ <;> omega⟩ hP hS dX4_readLimit_11
theorem pd_X4_readStart : yX4_readStart.cls = RX4 ∧ yX4_readStart.cls ≠ "java/lang/invoke/MethodHandle" ∧ yX4_readStart.cls ≠ "java/lang/invoke/VarHandle" ∧ (parseMethodDescriptor yX4_readStart.desc).map (fun d => d.parameters.length) = some 0 := by decide +kernel
abbrev rmX4_readStart : Room := { frames := 3, cells := 0, slots := 0, locals := 64 }
set_option maxHeartbeats 4000000 in
set_option maxRecDepth 100000 in
theorem c_X4_readStart (l : Launch) (G : CX) (hr0 : Nat) (hd0 : Nat) (pl : Int) (be : Int) (to : Int) (nu : Int) (it : Int) (lt : Int) (bt : Int) (hx0 : Nat) (ax : Nat) (tf : Int → Int) (tn : Int) (ad : Nat) (TS : Int) (TC : Int) (TW : Int) (TL : Int) (TB : Int) (tl : Int → Int) (htn : 0 ≤ tn ∧ tn ≤ 200) (htf : ∀ i : Int, 0 ≤ i → i < tn → 0 ≤ tf i ∧ tf i ≤ 255) (hbe : 0 ≤ be ∧ be ≤ tn) (hTW : 1 ≤ TW ∧ TW ≤ 12) : Met l yX4_readStart wsX4_readStart rmX4_readStart (wrP G [.ref hr0] [(hr0, .inr (4, [.ref hx0, .ref hd0, .int (zI pl), .int (zI be), .int (zI to), .int (zI nu), .int (zI it), .int (zI lt), .int (zI bt)])), (hx0, .inr (6, [.ref ax, .int (zI tn)])), (ax, .inl (G.2.1, 200, .inl (aZ tf))), (hd0, .inr (0, [.int (zI TS), .int (zI TC), .int (zI TW), .int (zI TL), .int (zI TB), .ref ad])), (ad, .inl (G.2.1, 12, .inl (aZ tl)))]) (wrQ G [(hr0, .inr (4, [.ref hx0, .ref hd0, .int (zI pl), .int (zI be), .int (zI to), .int (zI nu), .int (zI it), .int (zI lt), .int (zI bt)])), (hx0, .inr (6, [.ref ax, .int (zI tn)])), (ax, .inl (G.2.1, 200, .inl (aZ tf))), (hd0, .inr (0, [.int (zI TS), .int (zI TC), .int (zI TW), .int (zI TL), .int (zI TB), .ref ad])), (ad, .inl (G.2.1, 12, .inl (aZ tl)))] (fun (r_ : Int32) (u : Int × Int × Int × Int × Int × Int) => match u with | (pl2, be2, to2, nu2, bt2, TB2) => r_ = zI (if (tkK tf tn be = -2 ∧ 0 ≤ tkV tf tn be ∧ tkV tf tn be ≤ TW - 1) then 1 else 0) ∧ (((tkK tf tn be = -2 ∧ 0 ≤ tkV tf tn be ∧ tkV tf tn be ≤ TW - 1) → be2 = tkE tf tn be ∧ TB2 = tkV tf tn be ∧ bt2 = 1) ∧ (¬ (tkK tf tn be = -2 ∧ 0 ≤ tkV tf tn be ∧ tkV tf tn be ≤ TW - 1) → pl2 = tkS tf tn be) ∧ (0 ≤ be2 ∧ be2 ≤ tn))) (fun (u : Int × Int × Int × Int × Int × Int) => match u with | (pl2, be2, to2, nu2, bt2, TB2) => [(hr0, .inr (4, [.ref hx0, .ref hd0, .int (zI pl2), .int (zI be2), .int (zI to2), .int (zI nu2), .int (zI it), .int (zI lt), .int (zI bt2)])), (hx0, .inr (6, [.ref ax, .int (zI tn)])), (ax, .inl (G.2.1, 200, .inl (aZ tf))), (hd0, .inr (0, [.int (zI TS), .int (zI TC), .int (zI TW), .int (zI TL), .int (zI TB2), .ref ad])), (ad, .inl (G.2.1, 12, .inl (aZ tl)))])) 0 0 (wrA [(hr0, .inr (4, [.ref hx0, .ref hd0, .int (zI pl), .int (zI be), .int (zI to), .int (zI nu), .int (zI it), .int (zI lt), .int (zI bt)])), (hx0, .inr (6, [.ref ax, .int (zI tn)])), (ax, .inl (G.2.1, 200, .inl (aZ tf))), (hd0, .inr (0, [.int (zI TS), .int (zI TC), .int (zI TW), .int (zI TL), .int (zI TB), .ref ad])), (ad, .inl (G.2.1, 12, .inl (aZ tl)))]) := by
  refine wr_ofW (cc := cX4_readStart) (maxL := 1) (ty := .boolean) (by decide) rfl (Nat.le_of_ble_eq_true rfl) ?_
  intro p e s m below meth c Q A hx hb hml hown hts hK hret H locs hP hD hS ls hl
  have hown : s.vm.findClass RX4 = some m.cls := hown
  have hl : lv_has ls 1 [(0, .ref hr0)] := hl
  have f12 := hts (.fieldLink RX4 12 "QuarterTurns$Reader" "told" "LQuarterTurns$Bed;") (by decide +kernel)
  have i4 : ∀ w ∈ wsX40, w ∈ wsX4_readStart := fun w h => List.mem_cons_of_mem _ (List.mem_append_left _ (List.mem_append_left _ (List.mem_append_right _ h)))
  have f94 := hts (.fieldLink RX4 94 "QuarterTurns$Bed" "ways" "I") (by decide +kernel)
  have i0 : ∀ w ∈ wsX00, w ∈ wsX4_readStart := fun w h => List.mem_cons_of_mem _ (List.mem_append_left _ (List.mem_append_right _ h))
  have f68 := hts (.fieldLink RX4 68 "QuarterTurns$Reader" "number" "I") (by decide +kernel)
  have f103 := hts (.fieldLink RX4 103 "QuarterTurns$Bed" "start" "I") (by decide +kernel)
  have f36 := hts (.fieldLink RX4 36 "QuarterTurns$Reader" "startTold" "Z") (by decide +kernel)
  refine lv_aload_n hx hb dX4_readStart_0 rfl (lv_at hl 0 rfl) ?_
  refine lv_iconst (v := zI 0) hx hb dX4_readStart_1 rfl ?_
  refine lv_aload_n hx hb dX4_readStart_2 rfl (lv_at hl 0 rfl) ?_
  refine va_get (ci := 4) (v := .ref hd0) (C := RX4) (T := TX4) (N := 9) hx hb hts i4 hown hK hP 0 rfl rfl 1 (by decide) f12 (fun _ h9 => h9) rfl dX4_readStart_3 ?_
  refine va_get (ci := 0) (v := .int (zI TW)) (C := RX0) (T := TX0) (N := 6) hx hb hts i0 hown hK hP 3 rfl rfl 2 (by decide) f94 (fun _ h9 => h9) rfl dX4_readStart_6 ?_
  refine lv_iconst (v := zI 1) hx hb dX4_readStart_9 rfl ?_
  refine z_isub hx hb dX4_readStart_10 ?_
  refine z_wV (As := [.int (zI 0), .int (zI (TW - 1))]) (rest := []) ⟨hx, hb, hml, hown, hts⟩ (c_X4_isNumber l G hr0 hd0 pl be to nu it lt bt hx0 ax tf tn 0 (TW - 1) (by first | assumption | omega) (by first | assumption | omega) (by first | assumption | omega) (by first | assumption | omega)) (cwV 2 hts gX4_readStart_X4_isNumber rfl rfl rfl pd_X4_isNumber ⟨(Nat.le_of_ble_eq_true rfl), (Nat.le_of_ble_eq_true rfl)⟩) hK hP hD hS [0, 1, 2] (by decide) rfl rfl rfl rfl (fun _ => rfl) rfl hl.1 rfl (Nat.le_of_ble_eq_true rfl) dX4_readStart_11 ⟨Nat.zero_le _, Nat.zero_le _⟩ (fun r_ u_ H locs hw_5 hP hD hS => ?_)
  obtain ⟨pl2_1, be2_2, to2_3, nu2_4⟩ := u_
  obtain ⟨rfl, hw_5⟩ := hw_5
  try dsimp only at hw_5
  obtain ⟨rfl, rfl, rfl, hnu_6⟩ := hw_5
  have hP : kP G [(hr0, .inr (4, [.ref hx0, .ref hd0, .int (zI (tkS tf tn be)), .int (zI (tkE tf tn be)), .int (zI (tkK tf tn be)), .int (zI nu2_4), .int (zI it), .int (zI lt), .int (zI bt)])), (hx0, .inr (6, [.ref ax, .int (zI tn)])), (ax, .inl (G.2.1, 200, .inl (aZ tf))), (hd0, .inr (0, [.int (zI TS), .int (zI TC), .int (zI TW), .int (zI TL), .int (zI TB), .ref ad])), (ad, .inl (G.2.1, 12, .inl (aZ tl)))] H := hP
  have hD : va_D A [(hr0, .inr (4, [.ref hx0, .ref hd0, .int (zI (tkS tf tn be)), .int (zI (tkE tf tn be)), .int (zI (tkK tf tn be)), .int (zI nu2_4), .int (zI it), .int (zI lt), .int (zI bt)])), (hx0, .inr (6, [.ref ax, .int (zI tn)])), (ax, .inl (G.2.1, 200, .inl (aZ tf))), (hd0, .inr (0, [.int (zI TS), .int (zI TC), .int (zI TW), .int (zI TL), .int (zI TB), .ref ad])), (ad, .inl (G.2.1, 12, .inl (aZ tl)))] := hD
  have hq_7 := tkS_rng (f := tf) (n := tn) (p := be) (by omega)
  have hq_8 := tkE_rng (f := tf) (n := tn) (p := be) (by omega)
  have hq_9 := tkK_rng (f := tf) (n := tn) (p := be) (by omega) (by first | assumption | omega)
  have hq_10 := tkV_rng (f := tf) (n := tn) (p := be)
  refine z_ifne_b (tgt := 19) hx hb dX4_readStart_14 (by decide) (fun c_11 => ?_) (fun c_11 => ?_)
  · have hn1 := hnu_6 (by omega)
    refine lv_aload_n hx hb dX4_readStart_19 rfl (lv_at hl 0 rfl) ?_
    refine va_get (ci := 4) (v := .ref hd0) (C := RX4) (T := TX4) (N := 9) hx hb hts i4 hown hK hP 0 rfl rfl 1 (by decide) f12 (fun _ h9 => h9) rfl dX4_readStart_20 ?_
    refine lv_aload_n hx hb dX4_readStart_23 rfl (lv_at hl 0 rfl) ?_
    refine va_get (ci := 4) (v := .int (zI nu2_4)) (C := RX4) (T := TX4) (N := 9) hx hb hts i4 hown hK hP 0 rfl rfl 5 (by decide) f68 (fun _ h9 => h9) rfl dX4_readStart_24 ?_
    refine va_put (ci := 0) (v := .int (zI nu2_4)) (ty := .int) (C := RX0) (T := TX0) (N := 6) hx hb hts i0 tyX0 tyX0_ok nmX0 hown hK hP hD hS 3 rfl rfl 4 (by decide) f103 (fun _ h9 => h9) rfl (tyX0_ok 4 (by decide)) rfl rfl (Nat.le_of_ble_eq_true rfl) dX4_readStart_27 (fun H locs hP hD hS => ?_)
    have hP : kP G [(hr0, .inr (4, [.ref hx0, .ref hd0, .int (zI (tkS tf tn be)), .int (zI (tkE tf tn be)), .int (zI (tkK tf tn be)), .int (zI nu2_4), .int (zI it), .int (zI lt), .int (zI bt)])), (hx0, .inr (6, [.ref ax, .int (zI tn)])), (ax, .inl (G.2.1, 200, .inl (aZ tf))), (hd0, .inr (0, [.int (zI TS), .int (zI TC), .int (zI TW), .int (zI TL), .int (zI nu2_4), .ref ad])), (ad, .inl (G.2.1, 12, .inl (aZ tl)))] H := hP
    have hD : va_D A [(hr0, .inr (4, [.ref hx0, .ref hd0, .int (zI (tkS tf tn be)), .int (zI (tkE tf tn be)), .int (zI (tkK tf tn be)), .int (zI nu2_4), .int (zI it), .int (zI lt), .int (zI bt)])), (hx0, .inr (6, [.ref ax, .int (zI tn)])), (ax, .inl (G.2.1, 200, .inl (aZ tf))), (hd0, .inr (0, [.int (zI TS), .int (zI TC), .int (zI TW), .int (zI TL), .int (zI nu2_4), .ref ad])), (ad, .inl (G.2.1, 12, .inl (aZ tl)))] := hD
    refine lv_aload_n hx hb dX4_readStart_30 rfl (lv_at hl 0 rfl) ?_
    refine lv_iconst (v := zI 1) hx hb dX4_readStart_31 rfl ?_
    refine va_put (ci := 4) (v := .int (zI 1)) (ty := .boolean) (C := RX4) (T := TX4) (N := 9) hx hb hts i4 tyX4 tyX4_ok nmX4 hown hK hP hD hS 0 rfl rfl 8 (by decide) f36 (fun _ h9 => h9) rfl (tyX4_ok 8 (by decide)) (by decide) (by decide) (Nat.le_of_ble_eq_true rfl) dX4_readStart_32 (fun H locs hP hD hS => ?_)
    have hP : kP G [(hr0, .inr (4, [.ref hx0, .ref hd0, .int (zI (tkS tf tn be)), .int (zI (tkE tf tn be)), .int (zI (tkK tf tn be)), .int (zI nu2_4), .int (zI it), .int (zI lt), .int (zI 1)])), (hx0, .inr (6, [.ref ax, .int (zI tn)])), (ax, .inl (G.2.1, 200, .inl (aZ tf))), (hd0, .inr (0, [.int (zI TS), .int (zI TC), .int (zI TW), .int (zI TL), .int (zI nu2_4), .ref ad])), (ad, .inl (G.2.1, 12, .inl (aZ tl)))] H := hP
    have hD : va_D A [(hr0, .inr (4, [.ref hx0, .ref hd0, .int (zI (tkS tf tn be)), .int (zI (tkE tf tn be)), .int (zI (tkK tf tn be)), .int (zI nu2_4), .int (zI it), .int (zI lt), .int (zI 1)])), (hx0, .inr (6, [.ref ax, .int (zI tn)])), (ax, .inl (G.2.1, 200, .inl (aZ tf))), (hd0, .inr (0, [.int (zI TS), .int (zI TC), .int (zI TW), .int (zI TL), .int (zI nu2_4), .ref ad])), (ad, .inl (G.2.1, 12, .inl (aZ tl)))] := hD
    refine lv_iconst (v := zI 1) hx hb dX4_readStart_35 rfl ?_
    exact hret H locs ls 36 _ (tkS tf tn be, tkE tf tn be, tkK tf tn be, nu2_4, 1, nu2_4) (by decide) ⟨congrArg zI (if_pos (by omega)).symm, by refine ⟨fun h => ⟨rfl, hn1, rfl⟩, fun h => ?_, ?_⟩ <;> omega⟩ hP hS dX4_readStart_36
  · refine lv_iconst (v := zI 0) hx hb dX4_readStart_17 rfl ?_
    exact hret H locs ls 18 _ (tkS tf tn be, tkE tf tn be, tkK tf tn be, nu2_4, bt, TB) (by decide) ⟨congrArg zI (if_neg (by omega)).symm, by refine ⟨fun h => ?_, fun h => rfl, ?_⟩ <;> omega⟩ hP hS dX4_readStart_18

/-- an ITEM whose letter is the token k, behind it be: can it stand there? -/
def itB (f : Int → Int) (n be k it lt bt W : Int) : Bool := decide (
  (k = 115 ∧ it = 0 ∧ (tkK f n be = -2 ∧ 2 ≤ tkV f n be ∧ tkV f n be ≤ 6) ∧ (tkK f n (tkE f n be) = -2 ∧ 1 ≤ tkV f n (tkE f n be) ∧ tkV f n (tkE f n be) ≤ 2) ∧ tkK f n (tkE f n (tkE f n be)) = 59) ∨
  (k = 108 ∧ (tkK f n be = -2 ∧ 0 ≤ tkV f n be ∧ tkV f n be ≤ W - 1) ∧ (tkK f n (tkE f n be) = -2 ∧ 1 ≤ tkV f n (tkE f n be) ∧ tkV f n (tkE f n be) ≤ 9) ∧ tkK f n (tkE f n (tkE f n be)) = 59) ∨
  (k = 109 ∧ lt = 0 ∧ (tkK f n be = -2 ∧ 5 ≤ tkV f n be ∧ tkV f n be ≤ 99) ∧ tkK f n (tkE f n be) = 59) ∨
  (k = 98 ∧ bt = 0 ∧ (tkK f n be = -2 ∧ 0 ≤ tkV f n be ∧ tkV f n be ≤ W - 1) ∧ tkK f n (tkE f n be) = 59))
/-- where the first token is that can't stand there -/
def ftI (f : Int → Int) (n be k it lt bt W pl : Int) : Int :=
  if k = 115 ∧ it = 0 then
    (if ¬ (tkK f n be = -2 ∧ 2 ≤ tkV f n be ∧ tkV f n be ≤ 6) then tkS f n be
     else if ¬ (tkK f n (tkE f n be) = -2 ∧ 1 ≤ tkV f n (tkE f n be) ∧ tkV f n (tkE f n be) ≤ 2) then tkS f n (tkE f n be)
     else tkS f n (tkE f n (tkE f n be)))
  else if k = 108 then
    (if ¬ (tkK f n be = -2 ∧ 0 ≤ tkV f n be ∧ tkV f n be ≤ W - 1) then tkS f n be
     else if ¬ (tkK f n (tkE f n be) = -2 ∧ 1 ≤ tkV f n (tkE f n be) ∧ tkV f n (tkE f n be) ≤ 9) then tkS f n (tkE f n be)
     else tkS f n (tkE f n (tkE f n be)))
  else if k = 109 ∧ lt = 0 then
    (if ¬ (tkK f n be = -2 ∧ 5 ≤ tkV f n be ∧ tkV f n be ≤ 99) then tkS f n be else tkS f n (tkE f n be))
  else if k = 98 ∧ bt = 0 then
    (if ¬ (tkK f n be = -2 ∧ 0 ≤ tkV f n be ∧ tkV f n be ≤ W - 1) then tkS f n be else tkS f n (tkE f n be))
  else pl

theorem pd_X4_readItem : yX4_readItem.cls = RX4 ∧ yX4_readItem.cls ≠ "java/lang/invoke/MethodHandle" ∧ yX4_readItem.cls ≠ "java/lang/invoke/VarHandle" ∧ (parseMethodDescriptor yX4_readItem.desc).map (fun d => d.parameters.length) = some 0 := by decide +kernel
abbrev rmX4_readItem : Room := { frames := 4, cells := 0, slots := 0, locals := 85 }
set_option maxHeartbeats 4000000 in
set_option maxRecDepth 100000 in
theorem c_X4_readItem (l : Launch) (G : CX) (hr0 : Nat) (hd0 : Nat) (pl : Int) (be : Int) (to : Int) (nu : Int) (it : Int) (lt : Int) (bt : Int) (hx0 : Nat) (ax : Nat) (tf : Int → Int) (tn : Int) (ad : Nat) (TS : Int) (TC : Int) (TW : Int) (TL : Int) (TB : Int) (tl : Int → Int) (htn : 0 ≤ tn ∧ tn ≤ 200) (htf : ∀ i : Int, 0 ≤ i → i < tn → 0 ≤ tf i ∧ tf i ≤ 255) (hbe : 0 ≤ be ∧ be ≤ tn) (hTW : 1 ≤ TW ∧ TW ≤ 12) (hto : -3 ≤ to ∧ to ≤ 255) (hit0 : 0 ≤ it ∧ it ≤ 200) (hlb : (lt = 0 ∨ lt = 1) ∧ (bt = 0 ∨ bt = 1)) : Met l yX4_readItem wsX4_readItem rmX4_readItem (wrP G [.ref hr0] [(hr0, .inr (4, [.ref hx0, .ref hd0, .int (zI pl), .int (zI be), .int (zI to), .int (zI nu), .int (zI it), .int (zI lt), .int (zI bt)])), (hx0, .inr (6, [.ref ax, .int (zI tn)])), (ax, .inl (G.2.1, 200, .inl (aZ tf))), (hd0, .inr (0, [.int (zI TS), .int (zI TC), .int (zI TW), .int (zI TL), .int (zI TB), .ref ad])), (ad, .inl (G.2.1, 12, .inl (aZ tl)))]) (wrQ G [(hr0, .inr (4, [.ref hx0, .ref hd0, .int (zI pl), .int (zI be), .int (zI to), .int (zI nu), .int (zI it), .int (zI lt), .int (zI bt)])), (hx0, .inr (6, [.ref ax, .int (zI tn)])), (ax, .inl (G.2.1, 200, .inl (aZ tf))), (hd0, .inr (0, [.int (zI TS), .int (zI TC), .int (zI TW), .int (zI TL), .int (zI TB), .ref ad])), (ad, .inl (G.2.1, 12, .inl (aZ tl)))] (fun (r_ : Int32) (u : Int × Int × Int × Int × Int × Int × Int × Int × Int × Int × Int × (Int → Int)) => match u with | (pl2, be2, to2, nu2, lt2, bt2, TS2, TC2, TW2, TL2, TB2, tl2) => r_ = zI (if itB tf tn be to it lt bt TW = true then 1 else 0) ∧ ((itB tf tn be to it lt bt TW = true → be2 = (if to = 115 ∨ to = 108 then tkE tf tn (tkE tf tn (tkE tf tn be)) else (tkE tf tn (tkE tf tn be))) ∧ TS2 = (if to = 115 then tkV tf tn be else TS) ∧ TC2 = (if to = 115 then tkV tf tn (tkE tf tn be) else TC) ∧ TW2 = (if to = 115 then tkV tf tn be * tkV tf tn (tkE tf tn be) else TW) ∧ TL2 = (if to = 109 then tkV tf tn be else TL) ∧ lt2 = (if to = 109 then 1 else lt) ∧ TB2 = (if to = 98 then tkV tf tn be else TB) ∧ bt2 = (if to = 98 then 1 else bt) ∧ tl2 = (if to = 108 then uZ tl (tkV tf tn be) (tkV tf tn (tkE tf tn be)) else tl)) ∧ (¬ itB tf tn be to it lt bt TW = true → pl2 = ftI tf tn be to it lt bt TW pl) ∧ (0 ≤ be2 ∧ be2 ≤ tn))) (fun (u : Int × Int × Int × Int × Int × Int × Int × Int × Int × Int × Int × (Int → Int)) => match u with | (pl2, be2, to2, nu2, lt2, bt2, TS2, TC2, TW2, TL2, TB2, tl2) => [(hr0, .inr (4, [.ref hx0, .ref hd0, .int (zI pl2), .int (zI be2), .int (zI to2), .int (zI nu2), .int (zI it), .int (zI lt2), .int (zI bt2)])), (hx0, .inr (6, [.ref ax, .int (zI tn)])), (ax, .inl (G.2.1, 200, .inl (aZ tf))), (hd0, .inr (0, [.int (zI TS2), .int (zI TC2), .int (zI TW2), .int (zI TL2), .int (zI TB2), .ref ad])), (ad, .inl (G.2.1, 12, .inl (aZ tl2)))])) 0 0 (wrA [(hr0, .inr (4, [.ref hx0, .ref hd0, .int (zI pl), .int (zI be), .int (zI to), .int (zI nu), .int (zI it), .int (zI lt), .int (zI bt)])), (hx0, .inr (6, [.ref ax, .int (zI tn)])), (ax, .inl (G.2.1, 200, .inl (aZ tf))), (hd0, .inr (0, [.int (zI TS), .int (zI TC), .int (zI TW), .int (zI TL), .int (zI TB), .ref ad])), (ad, .inl (G.2.1, 12, .inl (aZ tl)))]) := by
  refine wr_ofW (cc := cX4_readItem) (maxL := 1) (ty := .boolean) (by decide) rfl (Nat.le_of_ble_eq_true rfl) ?_
  intro p e s m below meth c Q A hx hb hml hown hts hK hret H locs hP hD hS ls hl
  have hown : s.vm.findClass RX4 = some m.cls := hown
  have hl : lv_has ls 1 [(0, .ref hr0)] := hl
  have f42 := hts (.fieldLink RX4 42 "QuarterTurns$Reader" "token" "I") (by decide +kernel)
  have i4 : ∀ w ∈ wsX40, w ∈ wsX4_readItem := fun w h => List.mem_cons_of_mem _ (List.mem_append_left _ (List.mem_append_left _ (List.mem_append_right _ h)))
  have f36 := hts (.fieldLink RX4 36 "QuarterTurns$Reader" "startTold" "Z") (by decide +kernel)
  have f32 := hts (.fieldLink RX4 32 "QuarterTurns$Reader" "limitTold" "Z") (by decide +kernel)
  have f29 := hts (.fieldLink RX4 29 "QuarterTurns$Reader" "items" "I") (by decide +kernel)
  refine lv_aload_n hx hb dX4_readItem_0 rfl (lv_at hl 0 rfl) ?_
  refine va_get (ci := 4) (v := .int (zI to)) (C := RX4) (T := TX4) (N := 9) hx hb hts i4 hown hK hP 0 rfl rfl 4 (by decide) f42 (fun _ h9 => h9) rfl dX4_readItem_1 ?_
  rcases (show (¬ to = 98 ∧ ¬ to = 108 ∧ ¬ to = 109 ∧ ¬ to = 115) ∨ to = 98 ∨ to = 108 ∨ to = 109 ∨ to = 115 by omega) with c_1 | c_1 | c_1 | c_1 | c_1
  · refine z_lookup (off := 145) (tgt := 149) hx hb (by omega) dX4_readItem_4 rfl (by simp [Op.lookupswitch.offset]; (repeat' split) <;> omega) (by decide) ?_
    refine lv_iconst (v := zI 0) hx hb dX4_readItem_149 rfl ?_
    have hit : ¬ itB tf tn be to it lt bt TW = true := by unfold itB; rw [decide_eq_true_eq]; omega
    exact hret H locs ls 150 _ (pl, be, to, nu, lt, bt, TS, TC, TW, TL, TB, tl) (by decide) ⟨congrArg zI (if_neg (by exact hit)).symm, by refine ⟨fun h => absurd h hit, fun _ => ?_, ?_⟩ <;> first | (unfold ftI; (repeat' split) <;> omega) | omega⟩ hP hS dX4_readItem_150
  · refine z_lookup (off := 118) (tgt := 122) hx hb (by omega) dX4_readItem_4 rfl (by rw [c_1]; rfl) (by decide) ?_
    refine lv_aload_n hx hb dX4_readItem_122 rfl (lv_at hl 0 rfl) ?_
    refine va_get (ci := 4) (v := .int (zI bt)) (C := RX4) (T := TX4) (N := 9) hx hb hts i4 hown hK hP 0 rfl rfl 8 (by decide) f36 (fun _ h9 => h9) rfl dX4_readItem_123 ?_
    refine z_if_ne (tgt := 147) hx hb (by omega) dX4_readItem_126 (by decide) (fun c_2 => ?_) (fun c_2 => ?_)
    · refine lv_iconst (v := zI 0) hx hb dX4_readItem_147 rfl ?_
      have hit : ¬ itB tf tn be to it lt bt TW = true := by unfold itB; rw [decide_eq_true_eq]; omega
      exact hret H locs ls 148 _ (pl, be, to, nu, lt, bt, TS, TC, TW, TL, TB, tl) (by decide) ⟨congrArg zI (if_neg (by exact hit)).symm, by refine ⟨fun h => absurd h hit, fun _ => ?_, ?_⟩ <;> first | (unfold ftI; (repeat' split) <;> omega) | omega⟩ hP hS dX4_readItem_148
    · refine lv_aload_n hx hb dX4_readItem_129 rfl (lv_at hl 0 rfl) ?_
      refine z_wV (As := []) (rest := []) ⟨hx, hb, hml, hown, hts⟩ (c_X4_readStart l G hr0 hd0 pl be to nu it lt bt hx0 ax tf tn ad TS TC TW TL TB tl (by first | assumption | omega) (by first | assumption | omega) (by first | assumption | omega) (by first | assumption | omega)) (cwV 0 hts gX4_readItem_X4_readStart rfl rfl rfl pd_X4_readStart ⟨(Nat.le_of_ble_eq_true rfl), (Nat.le_of_ble_eq_true rfl)⟩) hK hP hD hS [0, 1, 2, 3, 4] (by decide) rfl rfl rfl rfl (fun _ => rfl) rfl hl.1 rfl (Nat.le_of_ble_eq_true rfl) dX4_readItem_130 ⟨Nat.zero_le _, Nat.zero_le _⟩ (fun r_ u_ H locs hw_9 hP hD hS => ?_)
      obtain ⟨pl2_3, be2_4, to2_5, nu2_6, bt2_7, TB2_8⟩ := u_
      obtain ⟨rfl, hw_9⟩ := hw_9
      try dsimp only at hw_9
      obtain ⟨hA_10, hB_11, hE_12⟩ := hw_9
      have hP : kP G [(hr0, .inr (4, [.ref hx0, .ref hd0, .int (zI pl2_3), .int (zI be2_4), .int (zI to2_5), .int (zI nu2_6), .int (zI it), .int (zI lt), .int (zI bt2_7)])), (hx0, .inr (6, [.ref ax, .int (zI tn)])), (ax, .inl (G.2.1, 200, .inl (aZ tf))), (hd0, .inr (0, [.int (zI TS), .int (zI TC), .int (zI TW), .int (zI TL), .int (zI TB2_8), .ref ad])), (ad, .inl (G.2.1, 12, .inl (aZ tl)))] H := hP
      have hD : va_D A [(hr0, .inr (4, [.ref hx0, .ref hd0, .int (zI pl2_3), .int (zI be2_4), .int (zI to2_5), .int (zI nu2_6), .int (zI it), .int (zI lt), .int (zI bt2_7)])), (hx0, .inr (6, [.ref ax, .int (zI tn)])), (ax, .inl (G.2.1, 200, .inl (aZ tf))), (hd0, .inr (0, [.int (zI TS), .int (zI TC), .int (zI TW), .int (zI TL), .int (zI TB2_8), .ref ad])), (ad, .inl (G.2.1, 12, .inl (aZ tl)))] := hD
      refine z_ifeq_b (tgt := 147) hx hb dX4_readItem_133 (by decide) (fun c_13 => ?_) (fun c_13 => ?_)
      · refine lv_iconst (v := zI 0) hx hb dX4_readItem_147 rfl ?_
        have hit : ¬ itB tf tn be to it lt bt TW = true := by unfold itB; rw [decide_eq_true_eq]; omega
        exact hret H locs ls 148 _ (pl2_3, be2_4, to2_5, nu2_6, lt, bt2_7, TS, TC, TW, TL, TB2_8, tl) (by decide) ⟨congrArg zI (if_neg (by exact hit)).symm, by refine ⟨fun h => absurd h hit, fun _ => ?_, ?_⟩ <;> first | (unfold ftI; (repeat' split) <;> omega) | omega⟩ hP hS dX4_readItem_148
      · obtain ⟨rfl, rfl, rfl⟩ := hA_10 (by omega)
        refine lv_aload_n hx hb dX4_readItem_136 rfl (lv_at hl 0 rfl) ?_
        refine z_wV (As := []) (rest := []) ⟨hx, hb, hml, hown, hts⟩ (c_X4_ends l G hr0 hd0 pl2_3 (tkE tf tn be) to2_5 nu2_6 it lt 1 hx0 ax tf tn (by first | assumption | omega) (by first | assumption | omega) (by first | assumption | omega)) (cwV 0 hts gX4_readItem_X4_ends rfl rfl rfl pd_X4_ends ⟨(Nat.le_of_ble_eq_true rfl), (Nat.le_of_ble_eq_true rfl)⟩) hK hP hD hS [0, 1, 2] (by decide) rfl rfl rfl rfl (fun _ => rfl) rfl hl.1 rfl (Nat.le_of_ble_eq_true rfl) dX4_readItem_137 ⟨Nat.zero_le _, Nat.zero_le _⟩ (fun r_ u_ H locs hw_18 hP hD hS => ?_)
        obtain ⟨pl2_14, be2_15, to2_16, nu2_17⟩ := u_
        obtain ⟨rfl, hw_18⟩ := hw_18
        try dsimp only at hw_18
        obtain ⟨rfl, rfl, rfl, hnu_19⟩ := hw_18
        have hP : kP G [(hr0, .inr (4, [.ref hx0, .ref hd0, .int (zI (tkS tf tn (tkE tf tn be))), .int (zI (tkE tf tn (tkE tf tn be))), .int (zI (tkK tf tn (tkE tf tn be))), .int (zI nu2_17), .int (zI it), .int (zI lt), .int (zI 1)])), (hx0, .inr (6, [.ref ax, .int (zI tn)])), (ax, .inl (G.2.1, 200, .inl (aZ tf))), (hd0, .inr (0, [.int (zI TS), .int (zI TC), .int (zI TW), .int (zI TL), .int (zI (tkV tf tn be)), .ref ad])), (ad, .inl (G.2.1, 12, .inl (aZ tl)))] H := hP
        have hD : va_D A [(hr0, .inr (4, [.ref hx0, .ref hd0, .int (zI (tkS tf tn (tkE tf tn be))), .int (zI (tkE tf tn (tkE tf tn be))), .int (zI (tkK tf tn (tkE tf tn be))), .int (zI nu2_17), .int (zI it), .int (zI lt), .int (zI 1)])), (hx0, .inr (6, [.ref ax, .int (zI tn)])), (ax, .inl (G.2.1, 200, .inl (aZ tf))), (hd0, .inr (0, [.int (zI TS), .int (zI TC), .int (zI TW), .int (zI TL), .int (zI (tkV tf tn be)), .ref ad])), (ad, .inl (G.2.1, 12, .inl (aZ tl)))] := hD
        have hq_20 := tkS_rng (f := tf) (n := tn) (p := (tkE tf tn be)) (by omega)
        have hq_21 := tkE_rng (f := tf) (n := tn) (p := (tkE tf tn be)) (by omega)
        have hq_22 := tkK_rng (f := tf) (n := tn) (p := (tkE tf tn be)) (by omega) (by first | assumption | omega)
        refine z_ifeq_b (tgt := 147) hx hb dX4_readItem_140 (by decide) (fun c_23 => ?_) (fun c_23 => ?_)
        · refine lv_iconst (v := zI 0) hx hb dX4_readItem_147 rfl ?_
          have hit : ¬ itB tf tn be to it lt bt TW = true := by unfold itB; rw [decide_eq_true_eq]; omega
          exact hret H locs ls 148 _ (tkS tf tn (tkE tf tn be), tkE tf tn (tkE tf tn be), tkK tf tn (tkE tf tn be), nu2_17, lt, 1, TS, TC, TW, TL, tkV tf tn be, tl) (by decide) ⟨congrArg zI (if_neg (by exact hit)).symm, by refine ⟨fun h => absurd h hit, fun _ => ?_, ?_⟩ <;> first | (unfold ftI; (repeat' split) <;> omega) | omega⟩ hP hS dX4_readItem_148
        · refine lv_iconst (v := zI 1) hx hb dX4_readItem_143 rfl ?_
          refine lv_goto (tgt := 148) hx hb dX4_readItem_144 (by decide) ?_
          have hit : itB tf tn be to it lt bt TW = true := by unfold itB; rw [decide_eq_true_eq]; omega
          exact hret H locs ls 148 _ (tkS tf tn (tkE tf tn be), tkE tf tn (tkE tf tn be), tkK tf tn (tkE tf tn be), nu2_17, lt, 1, TS, TC, TW, TL, tkV tf tn be, tl) (by decide) ⟨congrArg zI (if_pos (by exact hit)).symm, by refine ⟨fun _ => ⟨?_, ?_, ?_, ?_, ?_, ?_, ?_, ?_, ?_⟩, fun h => absurd hit h, ?_⟩ <;> first | (rw [if_pos (by omega)]; done) | (rw [if_neg (by omega)]; done) | omega⟩ hP hS dX4_readItem_148
  · refine z_lookup (off := 71) (tgt := 75) hx hb (by omega) dX4_readItem_4 rfl (by rw [c_1]; rfl) (by decide) ?_
    refine lv_aload_n hx hb dX4_readItem_75 rfl (lv_at hl 0 rfl) ?_
    refine z_wV (As := []) (rest := []) ⟨hx, hb, hml, hown, hts⟩ (c_X4_readLoad l G hr0 hd0 pl be to nu it lt bt hx0 ax tf tn ad TS TC TW TL TB tl (by first | assumption | omega) (by first | assumption | omega) (by first | assumption | omega) (by first | assumption | omega)) (cwV 0 hts gX4_readItem_X4_readLoad rfl rfl rfl pd_X4_readLoad ⟨(Nat.le_of_ble_eq_true rfl), (Nat.le_of_ble_eq_true rfl)⟩) hK hP hD hS [0, 1, 2, 3, 4] (by decide) rfl rfl rfl rfl (fun _ => rfl) rfl hl.1 rfl (Nat.le_of_ble_eq_true rfl) dX4_readItem_76 ⟨Nat.zero_le _, Nat.zero_le _⟩ (fun r_ u_ H locs hw_29 hP hD hS => ?_)
    obtain ⟨pl2_24, be2_25, to2_26, nu2_27, tl2_28⟩ := u_
    obtain ⟨rfl, hw_29⟩ := hw_29
    try dsimp only at hw_29
    obtain ⟨hA_30, hB_31, hC_32, hE_33⟩ := hw_29
    have hP : kP G [(hr0, .inr (4, [.ref hx0, .ref hd0, .int (zI pl2_24), .int (zI be2_25), .int (zI to2_26), .int (zI nu2_27), .int (zI it), .int (zI lt), .int (zI bt)])), (hx0, .inr (6, [.ref ax, .int (zI tn)])), (ax, .inl (G.2.1, 200, .inl (aZ tf))), (hd0, .inr (0, [.int (zI TS), .int (zI TC), .int (zI TW), .int (zI TL), .int (zI TB), .ref ad])), (ad, .inl (G.2.1, 12, .inl (aZ tl2_28)))] H := hP
    have hD : va_D A [(hr0, .inr (4, [.ref hx0, .ref hd0, .int (zI pl2_24), .int (zI be2_25), .int (zI to2_26), .int (zI nu2_27), .int (zI it), .int (zI lt), .int (zI bt)])), (hx0, .inr (6, [.ref ax, .int (zI tn)])), (ax, .inl (G.2.1, 200, .inl (aZ tf))), (hd0, .inr (0, [.int (zI TS), .int (zI TC), .int (zI TW), .int (zI TL), .int (zI TB), .ref ad])), (ad, .inl (G.2.1, 12, .inl (aZ tl2_28)))] := hD
    refine z_ifeq_b (tgt := 93) hx hb dX4_readItem_79 (by decide) (fun c_34 => ?_) (fun c_34 => ?_)
    · refine lv_iconst (v := zI 0) hx hb dX4_readItem_93 rfl ?_
      have hit : ¬ itB tf tn be to it lt bt TW = true := by unfold itB; rw [decide_eq_true_eq]; omega
      exact hret H locs ls 94 _ (pl2_24, be2_25, to2_26, nu2_27, lt, bt, TS, TC, TW, TL, TB, tl2_28) (by decide) ⟨congrArg zI (if_neg (by exact hit)).symm, by refine ⟨fun h => absurd h hit, fun _ => ?_, ?_⟩ <;> first | (unfold ftI; (repeat' split) <;> omega) | omega⟩ hP hS dX4_readItem_94
    · obtain ⟨rfl, rfl⟩ := hA_30 (by omega)
      refine lv_aload_n hx hb dX4_readItem_82 rfl (lv_at hl 0 rfl) ?_
      refine z_wV (As := []) (rest := []) ⟨hx, hb, hml, hown, hts⟩ (c_X4_ends l G hr0 hd0 pl2_24 (tkE tf tn (tkE tf tn be)) to2_26 nu2_27 it lt bt hx0 ax tf tn (by first | assumption | omega) (by first | assumption | omega) (by first | assumption | omega)) (cwV 0 hts gX4_readItem_X4_ends rfl rfl rfl pd_X4_ends ⟨(Nat.le_of_ble_eq_true rfl), (Nat.le_of_ble_eq_true rfl)⟩) hK hP hD hS [0, 1, 2] (by decide) rfl rfl rfl rfl (fun _ => rfl) rfl hl.1 rfl (Nat.le_of_ble_eq_true rfl) dX4_readItem_83 ⟨Nat.zero_le _, Nat.zero_le _⟩ (fun r_ u_ H locs hw_39 hP hD hS => ?_)
      obtain ⟨pl2_35, be2_36, to2_37, nu2_38⟩ := u_
      obtain ⟨rfl, hw_39⟩ := hw_39
      try dsimp only at hw_39
      obtain ⟨rfl, rfl, rfl, hnu_40⟩ := hw_39
      have hP : kP G [(hr0, .inr (4, [.ref hx0, .ref hd0, .int (zI (tkS tf tn (tkE tf tn (tkE tf tn be)))), .int (zI (tkE tf tn (tkE tf tn (tkE tf tn be)))), .int (zI (tkK tf tn (tkE tf tn (tkE tf tn be)))), .int (zI nu2_38), .int (zI it), .int (zI lt), .int (zI bt)])), (hx0, .inr (6, [.ref ax, .int (zI tn)])), (ax, .inl (G.2.1, 200, .inl (aZ tf))), (hd0, .inr (0, [.int (zI TS), .int (zI TC), .int (zI TW), .int (zI TL), .int (zI TB), .ref ad])), (ad, .inl (G.2.1, 12, .inl (aZ (uZ tl (tkV tf tn be) (tkV tf tn (tkE tf tn be))))))] H := hP
      have hD : va_D A [(hr0, .inr (4, [.ref hx0, .ref hd0, .int (zI (tkS tf tn (tkE tf tn (tkE tf tn be)))), .int (zI (tkE tf tn (tkE tf tn (tkE tf tn be)))), .int (zI (tkK tf tn (tkE tf tn (tkE tf tn be)))), .int (zI nu2_38), .int (zI it), .int (zI lt), .int (zI bt)])), (hx0, .inr (6, [.ref ax, .int (zI tn)])), (ax, .inl (G.2.1, 200, .inl (aZ tf))), (hd0, .inr (0, [.int (zI TS), .int (zI TC), .int (zI TW), .int (zI TL), .int (zI TB), .ref ad])), (ad, .inl (G.2.1, 12, .inl (aZ (uZ tl (tkV tf tn be) (tkV tf tn (tkE tf tn be))))))] := hD
      have hq_41 := tkS_rng (f := tf) (n := tn) (p := (tkE tf tn (tkE tf tn be))) (by omega)
      have hq_42 := tkE_rng (f := tf) (n := tn) (p := (tkE tf tn (tkE tf tn be))) (by omega)
      have hq_43 := tkK_rng (f := tf) (n := tn) (p := (tkE tf tn (tkE tf tn be))) (by omega) (by first | assumption | omega)
      refine z_ifeq_b (tgt := 93) hx hb dX4_readItem_86 (by decide) (fun c_44 => ?_) (fun c_44 => ?_)
      · refine lv_iconst (v := zI 0) hx hb dX4_readItem_93 rfl ?_
        have hit : ¬ itB tf tn be to it lt bt TW = true := by unfold itB; rw [decide_eq_true_eq]; omega
        exact hret H locs ls 94 _ (tkS tf tn (tkE tf tn (tkE tf tn be)), tkE tf tn (tkE tf tn (tkE tf tn be)), tkK tf tn (tkE tf tn (tkE tf tn be)), nu2_38, lt, bt, TS, TC, TW, TL, TB, uZ tl (tkV tf tn be) (tkV tf tn (tkE tf tn be))) (by decide) ⟨congrArg zI (if_neg (by exact hit)).symm, by refine ⟨fun h => absurd h hit, fun _ => ?_, ?_⟩ <;> first | (unfold ftI; (repeat' split) <;> omega) | omega⟩ hP hS dX4_readItem_94
      · refine lv_iconst (v := zI 1) hx hb dX4_readItem_89 rfl ?_
        refine lv_goto (tgt := 94) hx hb dX4_readItem_90 (by decide) ?_
        have hit : itB tf tn be to it lt bt TW = true := by unfold itB; rw [decide_eq_true_eq]; omega
        exact hret H locs ls 94 _ (tkS tf tn (tkE tf tn (tkE tf tn be)), tkE tf tn (tkE tf tn (tkE tf tn be)), tkK tf tn (tkE tf tn (tkE tf tn be)), nu2_38, lt, bt, TS, TC, TW, TL, TB, uZ tl (tkV tf tn be) (tkV tf tn (tkE tf tn be))) (by decide) ⟨congrArg zI (if_pos (by exact hit)).symm, by refine ⟨fun _ => ⟨?_, ?_, ?_, ?_, ?_, ?_, ?_, ?_, ?_⟩, fun h => absurd hit h, ?_⟩ <;> first | (rw [if_pos (by omega)]; done) | (rw [if_neg (by omega)]; done) | omega⟩ hP hS dX4_readItem_94
  · refine z_lookup (off := 91) (tgt := 95) hx hb (by omega) dX4_readItem_4 rfl (by rw [c_1]; rfl) (by decide) ?_
    refine lv_aload_n hx hb dX4_readItem_95 rfl (lv_at hl 0 rfl) ?_
    refine va_get (ci := 4) (v := .int (zI lt)) (C := RX4) (T := TX4) (N := 9) hx hb hts i4 hown hK hP 0 rfl rfl 7 (by decide) f32 (fun _ h9 => h9) rfl dX4_readItem_96 ?_
    refine z_if_ne (tgt := 120) hx hb (by omega) dX4_readItem_99 (by decide) (fun c_45 => ?_) (fun c_45 => ?_)
    · refine lv_iconst (v := zI 0) hx hb dX4_readItem_120 rfl ?_
      have hit : ¬ itB tf tn be to it lt bt TW = true := by unfold itB; rw [decide_eq_true_eq]; omega
      exact hret H locs ls 121 _ (pl, be, to, nu, lt, bt, TS, TC, TW, TL, TB, tl) (by decide) ⟨congrArg zI (if_neg (by exact hit)).symm, by refine ⟨fun h => absurd h hit, fun _ => ?_, ?_⟩ <;> first | (unfold ftI; (repeat' split) <;> omega) | omega⟩ hP hS dX4_readItem_121
    · refine lv_aload_n hx hb dX4_readItem_102 rfl (lv_at hl 0 rfl) ?_
      refine z_wV (As := []) (rest := []) ⟨hx, hb, hml, hown, hts⟩ (c_X4_readLimit l G hr0 hd0 pl be to nu it lt bt hx0 ax tf tn ad TS TC TW TL TB tl (by first | assumption | omega) (by first | assumption | omega) (by first | assumption | omega)) (cwV 0 hts gX4_readItem_X4_readLimit rfl rfl rfl pd_X4_readLimit ⟨(Nat.le_of_ble_eq_true rfl), (Nat.le_of_ble_eq_true rfl)⟩) hK hP hD hS [0, 1, 2, 3, 4] (by decide) rfl rfl rfl rfl (fun _ => rfl) rfl hl.1 rfl (Nat.le_of_ble_eq_true rfl) dX4_readItem_103 ⟨Nat.zero_le _, Nat.zero_le _⟩ (fun r_ u_ H locs hw_52 hP hD hS => ?_)
      obtain ⟨pl2_46, be2_47, to2_48, nu2_49, lt2_50, TL2_51⟩ := u_
      obtain ⟨rfl, hw_52⟩ := hw_52
      try dsimp only at hw_52
      obtain ⟨hA_53, hB_54, hE_55⟩ := hw_52
      have hP : kP G [(hr0, .inr (4, [.ref hx0, .ref hd0, .int (zI pl2_46), .int (zI be2_47), .int (zI to2_48), .int (zI nu2_49), .int (zI it), .int (zI lt2_50), .int (zI bt)])), (hx0, .inr (6, [.ref ax, .int (zI tn)])), (ax, .inl (G.2.1, 200, .inl (aZ tf))), (hd0, .inr (0, [.int (zI TS), .int (zI TC), .int (zI TW), .int (zI TL2_51), .int (zI TB), .ref ad])), (ad, .inl (G.2.1, 12, .inl (aZ tl)))] H := hP
      have hD : va_D A [(hr0, .inr (4, [.ref hx0, .ref hd0, .int (zI pl2_46), .int (zI be2_47), .int (zI to2_48), .int (zI nu2_49), .int (zI it), .int (zI lt2_50), .int (zI bt)])), (hx0, .inr (6, [.ref ax, .int (zI tn)])), (ax, .inl (G.2.1, 200, .inl (aZ tf))), (hd0, .inr (0, [.int (zI TS), .int (zI TC), .int (zI TW), .int (zI TL2_51), .int (zI TB), .ref ad])), (ad, .inl (G.2.1, 12, .inl (aZ tl)))] := hD
      refine z_ifeq_b (tgt := 120) hx hb dX4_readItem_106 (by decide) (fun c_56 => ?_) (fun c_56 => ?_)
      · refine lv_iconst (v := zI 0) hx hb dX4_readItem_120 rfl ?_
        have hit : ¬ itB tf tn be to it lt bt TW = true := by unfold itB; rw [decide_eq_true_eq]; omega
        exact hret H locs ls 121 _ (pl2_46, be2_47, to2_48, nu2_49, lt2_50, bt, TS, TC, TW, TL2_51, TB, tl) (by decide) ⟨congrArg zI (if_neg (by exact hit)).symm, by refine ⟨fun h => absurd h hit, fun _ => ?_, ?_⟩ <;> first | (unfold ftI; (repeat' split) <;> omega) | omega⟩ hP hS dX4_readItem_121
      · obtain ⟨rfl, rfl, rfl⟩ := hA_53 (by omega)
        refine lv_aload_n hx hb dX4_readItem_109 rfl (lv_at hl 0 rfl) ?_
        refine z_wV (As := []) (rest := []) ⟨hx, hb, hml, hown, hts⟩ (c_X4_ends l G hr0 hd0 pl2_46 (tkE tf tn be) to2_48 nu2_49 it 1 bt hx0 ax tf tn (by first | assumption | omega) (by first | assumption | omega) (by first | assumption | omega)) (cwV 0 hts gX4_readItem_X4_ends rfl rfl rfl pd_X4_ends ⟨(Nat.le_of_ble_eq_true rfl), (Nat.le_of_ble_eq_true rfl)⟩) hK hP hD hS [0, 1, 2] (by decide) rfl rfl rfl rfl (fun _ => rfl) rfl hl.1 rfl (Nat.le_of_ble_eq_true rfl) dX4_readItem_110 ⟨Nat.zero_le _, Nat.zero_le _⟩ (fun r_ u_ H locs hw_61 hP hD hS => ?_)
        obtain ⟨pl2_57, be2_58, to2_59, nu2_60⟩ := u_
        obtain ⟨rfl, hw_61⟩ := hw_61
        try dsimp only at hw_61
        obtain ⟨rfl, rfl, rfl, hnu_62⟩ := hw_61
        have hP : kP G [(hr0, .inr (4, [.ref hx0, .ref hd0, .int (zI (tkS tf tn (tkE tf tn be))), .int (zI (tkE tf tn (tkE tf tn be))), .int (zI (tkK tf tn (tkE tf tn be))), .int (zI nu2_60), .int (zI it), .int (zI 1), .int (zI bt)])), (hx0, .inr (6, [.ref ax, .int (zI tn)])), (ax, .inl (G.2.1, 200, .inl (aZ tf))), (hd0, .inr (0, [.int (zI TS), .int (zI TC), .int (zI TW), .int (zI (tkV tf tn be)), .int (zI TB), .ref ad])), (ad, .inl (G.2.1, 12, .inl (aZ tl)))] H := hP
        have hD : va_D A [(hr0, .inr (4, [.ref hx0, .ref hd0, .int (zI (tkS tf tn (tkE tf tn be))), .int (zI (tkE tf tn (tkE tf tn be))), .int (zI (tkK tf tn (tkE tf tn be))), .int (zI nu2_60), .int (zI it), .int (zI 1), .int (zI bt)])), (hx0, .inr (6, [.ref ax, .int (zI tn)])), (ax, .inl (G.2.1, 200, .inl (aZ tf))), (hd0, .inr (0, [.int (zI TS), .int (zI TC), .int (zI TW), .int (zI (tkV tf tn be)), .int (zI TB), .ref ad])), (ad, .inl (G.2.1, 12, .inl (aZ tl)))] := hD
        have hq_63 := tkS_rng (f := tf) (n := tn) (p := (tkE tf tn be)) (by omega)
        have hq_64 := tkE_rng (f := tf) (n := tn) (p := (tkE tf tn be)) (by omega)
        have hq_65 := tkK_rng (f := tf) (n := tn) (p := (tkE tf tn be)) (by omega) (by first | assumption | omega)
        refine z_ifeq_b (tgt := 120) hx hb dX4_readItem_113 (by decide) (fun c_66 => ?_) (fun c_66 => ?_)
        · refine lv_iconst (v := zI 0) hx hb dX4_readItem_120 rfl ?_
          have hit : ¬ itB tf tn be to it lt bt TW = true := by unfold itB; rw [decide_eq_true_eq]; omega
          exact hret H locs ls 121 _ (tkS tf tn (tkE tf tn be), tkE tf tn (tkE tf tn be), tkK tf tn (tkE tf tn be), nu2_60, 1, bt, TS, TC, TW, tkV tf tn be, TB, tl) (by decide) ⟨congrArg zI (if_neg (by exact hit)).symm, by refine ⟨fun h => absurd h hit, fun _ => ?_, ?_⟩ <;> first | (unfold ftI; (repeat' split) <;> omega) | omega⟩ hP hS dX4_readItem_121
        · refine lv_iconst (v := zI 1) hx hb dX4_readItem_116 rfl ?_
          refine lv_goto (tgt := 121) hx hb dX4_readItem_117 (by decide) ?_
          have hit : itB tf tn be to it lt bt TW = true := by unfold itB; rw [decide_eq_true_eq]; omega
          exact hret H locs ls 121 _ (tkS tf tn (tkE tf tn be), tkE tf tn (tkE tf tn be), tkK tf tn (tkE tf tn be), nu2_60, 1, bt, TS, TC, TW, tkV tf tn be, TB, tl) (by decide) ⟨congrArg zI (if_pos (by exact hit)).symm, by refine ⟨fun _ => ⟨?_, ?_, ?_, ?_, ?_, ?_, ?_, ?_, ?_⟩, fun h => absurd hit h, ?_⟩ <;> first | (rw [if_pos (by omega)]; done) | (rw [if_neg (by omega)]; done) | omega⟩ hP hS dX4_readItem_121
  · refine z_lookup (off := 44) (tgt := 48) hx hb (by omega) dX4_readItem_4 rfl (by rw [c_1]; rfl) (by decide) ?_
    refine lv_aload_n hx hb dX4_readItem_48 rfl (lv_at hl 0 rfl) ?_
    refine va_get (ci := 4) (v := .int (zI it)) (C := RX4) (T := TX4) (N := 9) hx hb hts i4 hown hK hP 0 rfl rfl 6 (by decide) f29 (fun _ h9 => h9) rfl dX4_readItem_49 ?_
    refine z_if_ne (tgt := 73) hx hb (by omega) dX4_readItem_52 (by decide) (fun c_67 => ?_) (fun c_67 => ?_)
    · refine lv_iconst (v := zI 0) hx hb dX4_readItem_73 rfl ?_
      have hit : ¬ itB tf tn be to it lt bt TW = true := by unfold itB; rw [decide_eq_true_eq]; omega
      exact hret H locs ls 74 _ (pl, be, to, nu, lt, bt, TS, TC, TW, TL, TB, tl) (by decide) ⟨congrArg zI (if_neg (by exact hit)).symm, by refine ⟨fun h => absurd h hit, fun _ => ?_, ?_⟩ <;> first | (unfold ftI; (repeat' split) <;> omega) | omega⟩ hP hS dX4_readItem_74
    · refine lv_aload_n hx hb dX4_readItem_55 rfl (lv_at hl 0 rfl) ?_
      refine z_wV (As := []) (rest := []) ⟨hx, hb, hml, hown, hts⟩ (c_X4_readShape l G hr0 hd0 pl be to nu it lt bt hx0 ax tf tn ad TS TC TW TL TB tl (by first | assumption | omega) (by first | assumption | omega) (by first | assumption | omega)) (cwV 0 hts gX4_readItem_X4_readShape rfl rfl rfl pd_X4_readShape ⟨(Nat.le_of_ble_eq_true rfl), (Nat.le_of_ble_eq_true rfl)⟩) hK hP hD hS [0, 1, 2, 3, 4] (by decide) rfl rfl rfl rfl (fun _ => rfl) rfl hl.1 rfl (Nat.le_of_ble_eq_true rfl) dX4_readItem_56 ⟨Nat.zero_le _, Nat.zero_le _⟩ (fun r_ u_ H locs hw_75 hP hD hS => ?_)
      obtain ⟨pl2_68, be2_69, to2_70, nu2_71, TS2_72, TC2_73, TW2_74⟩ := u_
      obtain ⟨rfl, hw_75⟩ := hw_75
      try dsimp only at hw_75
      obtain ⟨hA_76, hB_77, hC_78, hE_79⟩ := hw_75
      have hP : kP G [(hr0, .inr (4, [.ref hx0, .ref hd0, .int (zI pl2_68), .int (zI be2_69), .int (zI to2_70), .int (zI nu2_71), .int (zI it), .int (zI lt), .int (zI bt)])), (hx0, .inr (6, [.ref ax, .int (zI tn)])), (ax, .inl (G.2.1, 200, .inl (aZ tf))), (hd0, .inr (0, [.int (zI TS2_72), .int (zI TC2_73), .int (zI TW2_74), .int (zI TL), .int (zI TB), .ref ad])), (ad, .inl (G.2.1, 12, .inl (aZ tl)))] H := hP
      have hD : va_D A [(hr0, .inr (4, [.ref hx0, .ref hd0, .int (zI pl2_68), .int (zI be2_69), .int (zI to2_70), .int (zI nu2_71), .int (zI it), .int (zI lt), .int (zI bt)])), (hx0, .inr (6, [.ref ax, .int (zI tn)])), (ax, .inl (G.2.1, 200, .inl (aZ tf))), (hd0, .inr (0, [.int (zI TS2_72), .int (zI TC2_73), .int (zI TW2_74), .int (zI TL), .int (zI TB), .ref ad])), (ad, .inl (G.2.1, 12, .inl (aZ tl)))] := hD
      refine z_ifeq_b (tgt := 73) hx hb dX4_readItem_59 (by decide) (fun c_80 => ?_) (fun c_80 => ?_)
      · refine lv_iconst (v := zI 0) hx hb dX4_readItem_73 rfl ?_
        have hit : ¬ itB tf tn be to it lt bt TW = true := by unfold itB; rw [decide_eq_true_eq]; omega
        exact hret H locs ls 74 _ (pl2_68, be2_69, to2_70, nu2_71, lt, bt, TS2_72, TC2_73, TW2_74, TL, TB, tl) (by decide) ⟨congrArg zI (if_neg (by exact hit)).symm, by refine ⟨fun h => absurd h hit, fun _ => ?_, ?_⟩ <;> first | (unfold ftI; (repeat' split) <;> omega) | omega⟩ hP hS dX4_readItem_74
      · obtain ⟨rfl, rfl, rfl, rfl⟩ := hA_76 (by omega)
        refine lv_aload_n hx hb dX4_readItem_62 rfl (lv_at hl 0 rfl) ?_
        refine z_wV (As := []) (rest := []) ⟨hx, hb, hml, hown, hts⟩ (c_X4_ends l G hr0 hd0 pl2_68 (tkE tf tn (tkE tf tn be)) to2_70 nu2_71 it lt bt hx0 ax tf tn (by first | assumption | omega) (by first | assumption | omega) (by first | assumption | omega)) (cwV 0 hts gX4_readItem_X4_ends rfl rfl rfl pd_X4_ends ⟨(Nat.le_of_ble_eq_true rfl), (Nat.le_of_ble_eq_true rfl)⟩) hK hP hD hS [0, 1, 2] (by decide) rfl rfl rfl rfl (fun _ => rfl) rfl hl.1 rfl (Nat.le_of_ble_eq_true rfl) dX4_readItem_63 ⟨Nat.zero_le _, Nat.zero_le _⟩ (fun r_ u_ H locs hw_85 hP hD hS => ?_)
        obtain ⟨pl2_81, be2_82, to2_83, nu2_84⟩ := u_
        obtain ⟨rfl, hw_85⟩ := hw_85
        try dsimp only at hw_85
        obtain ⟨rfl, rfl, rfl, hnu_86⟩ := hw_85
        have hP : kP G [(hr0, .inr (4, [.ref hx0, .ref hd0, .int (zI (tkS tf tn (tkE tf tn (tkE tf tn be)))), .int (zI (tkE tf tn (tkE tf tn (tkE tf tn be)))), .int (zI (tkK tf tn (tkE tf tn (tkE tf tn be)))), .int (zI nu2_84), .int (zI it), .int (zI lt), .int (zI bt)])), (hx0, .inr (6, [.ref ax, .int (zI tn)])), (ax, .inl (G.2.1, 200, .inl (aZ tf))), (hd0, .inr (0, [.int (zI (tkV tf tn be)), .int (zI (tkV tf tn (tkE tf tn be))), .int (zI (tkV tf tn be * tkV tf tn (tkE tf tn be))), .int (zI TL), .int (zI TB), .ref ad])), (ad, .inl (G.2.1, 12, .inl (aZ tl)))] H := hP
        have hD : va_D A [(hr0, .inr (4, [.ref hx0, .ref hd0, .int (zI (tkS tf tn (tkE tf tn (tkE tf tn be)))), .int (zI (tkE tf tn (tkE tf tn (tkE tf tn be)))), .int (zI (tkK tf tn (tkE tf tn (tkE tf tn be)))), .int (zI nu2_84), .int (zI it), .int (zI lt), .int (zI bt)])), (hx0, .inr (6, [.ref ax, .int (zI tn)])), (ax, .inl (G.2.1, 200, .inl (aZ tf))), (hd0, .inr (0, [.int (zI (tkV tf tn be)), .int (zI (tkV tf tn (tkE tf tn be))), .int (zI (tkV tf tn be * tkV tf tn (tkE tf tn be))), .int (zI TL), .int (zI TB), .ref ad])), (ad, .inl (G.2.1, 12, .inl (aZ tl)))] := hD
        have hq_87 := tkS_rng (f := tf) (n := tn) (p := (tkE tf tn (tkE tf tn be))) (by omega)
        have hq_88 := tkE_rng (f := tf) (n := tn) (p := (tkE tf tn (tkE tf tn be))) (by omega)
        have hq_89 := tkK_rng (f := tf) (n := tn) (p := (tkE tf tn (tkE tf tn be))) (by omega) (by first | assumption | omega)
        refine z_ifeq_b (tgt := 73) hx hb dX4_readItem_66 (by decide) (fun c_90 => ?_) (fun c_90 => ?_)
        · refine lv_iconst (v := zI 0) hx hb dX4_readItem_73 rfl ?_
          have hit : ¬ itB tf tn be to it lt bt TW = true := by unfold itB; rw [decide_eq_true_eq]; omega
          exact hret H locs ls 74 _ (tkS tf tn (tkE tf tn (tkE tf tn be)), tkE tf tn (tkE tf tn (tkE tf tn be)), tkK tf tn (tkE tf tn (tkE tf tn be)), nu2_84, lt, bt, tkV tf tn be, tkV tf tn (tkE tf tn be), tkV tf tn be * tkV tf tn (tkE tf tn be), TL, TB, tl) (by decide) ⟨congrArg zI (if_neg (by exact hit)).symm, by refine ⟨fun h => absurd h hit, fun _ => ?_, ?_⟩ <;> first | (unfold ftI; (repeat' split) <;> omega) | omega⟩ hP hS dX4_readItem_74
        · refine lv_iconst (v := zI 1) hx hb dX4_readItem_69 rfl ?_
          refine lv_goto (tgt := 74) hx hb dX4_readItem_70 (by decide) ?_
          have hit : itB tf tn be to it lt bt TW = true := by unfold itB; rw [decide_eq_true_eq]; omega
          exact hret H locs ls 74 _ (tkS tf tn (tkE tf tn (tkE tf tn be)), tkE tf tn (tkE tf tn (tkE tf tn be)), tkK tf tn (tkE tf tn (tkE tf tn be)), nu2_84, lt, bt, tkV tf tn be, tkV tf tn (tkE tf tn be), tkV tf tn be * tkV tf tn (tkE tf tn be), TL, TB, tl) (by decide) ⟨congrArg zI (if_pos (by exact hit)).symm, by refine ⟨fun _ => ⟨?_, ?_, ?_, ?_, ?_, ?_, ?_, ?_, ?_⟩, fun h => absurd hit h, ?_⟩ <;> first | (rw [if_pos (by omega)]; done) | (rw [if_neg (by omega)]; done) | omega⟩ hP hS dX4_readItem_74

def prG (f : Int → Int) (n : Int) : Nat → Int → Int → Int → Int → Int → Int → Int → Int → Int → (Int → Int) → Int × Int × Int × Int × Int × Int × (Int → Int)
  | 0, _, it, S, C, W, L, B, _, _, ld => (it, S, C, W, L, B, ld)
  | k + 1, p, it, S, C, W, L, B, lt, bt, ld =>
    if tkK f n p = -1 then (it, S, C, W, L, B, ld)
    else if itB f n (tkE f n p) (tkK f n p) it lt bt W = true then
      prG f n k (if tkK f n p = 115 ∨ tkK f n p = 108 then tkE f n (tkE f n (tkE f n (tkE f n p))) else tkE f n (tkE f n (tkE f n p))) (it + 1)
        (if tkK f n p = 115 then tkV f n (tkE f n p) else S) (if tkK f n p = 115 then tkV f n (tkE f n (tkE f n p)) else C)
        (if tkK f n p = 115 then tkV f n (tkE f n p) * tkV f n (tkE f n (tkE f n p)) else W) (if tkK f n p = 109 then tkV f n (tkE f n p) else L)
        (if tkK f n p = 98 then tkV f n (tkE f n p) else B) (if tkK f n p = 109 then 1 else lt) (if tkK f n p = 98 then 1 else bt)
        (if tkK f n p = 108 then uZ ld (tkV f n (tkE f n p)) (tkV f n (tkE f n (tkE f n p))) else ld)
    else (-10 - ftI f n (tkE f n p) (tkK f n p) it lt bt W (tkS f n p), S, C, W, L, B, ld)
def prZ (f : Int → Int) (n : Int) : Int × Int × Int × Int × Int × Int × (Int → Int) := prG f n 200 0 0 2 2 4 20 0 0 0 (fun _ => 1)
theorem prG_end {f : Int → Int} {n p it S C W L B lt bt : Int} {ld : Int → Int} (h : tkK f n p = -1) : ∀ k, prG f n k p it S C W L B lt bt ld = (it, S, C, W, L, B, ld)
  | 0 => rfl
  | k + 1 => by
    unfold prG
    rw [if_pos h]
theorem prG_bad {f : Int → Int} {n p it S C W L B lt bt : Int} {ld : Int → Int} {k : Nat} (h : ¬ tkK f n p = -1) (h2 : ¬ itB f n (tkE f n p) (tkK f n p) it lt bt W = true) : prG f n (k + 1) p it S C W L B lt bt ld = (-10 - ftI f n (tkE f n p) (tkK f n p) it lt bt W (tkS f n p), S, C, W, L, B, ld) := by
  unfold prG
  rw [if_neg h, if_neg h2]
theorem prG_ok {f : Int → Int} {n p it S C W L B lt bt : Int} {ld : Int → Int} {k : Nat} (h : ¬ tkK f n p = -1) (h2 : itB f n (tkE f n p) (tkK f n p) it lt bt W = true) : prG f n (k + 1) p it S C W L B lt bt ld =
      prG f n k (if tkK f n p = 115 ∨ tkK f n p = 108 then tkE f n (tkE f n (tkE f n (tkE f n p))) else tkE f n (tkE f n (tkE f n p))) (it + 1)
        (if tkK f n p = 115 then tkV f n (tkE f n p) else S) (if tkK f n p = 115 then tkV f n (tkE f n (tkE f n p)) else C)
        (if tkK f n p = 115 then tkV f n (tkE f n p) * tkV f n (tkE f n (tkE f n p)) else W) (if tkK f n p = 109 then tkV f n (tkE f n p) else L)
        (if tkK f n p = 98 then tkV f n (tkE f n p) else B) (if tkK f n p = 109 then 1 else lt) (if tkK f n p = 98 then 1 else bt)
        (if tkK f n p = 108 then uZ ld (tkV f n (tkE f n p)) (tkV f n (tkE f n (tkE f n p))) else ld) := by
  rw [prG, if_neg h, if_pos h2]
/-- where the next token is looked for behind an ITEM that is right -/
def nxP (f : Int → Int) (n p : Int) : Int := if tkK f n p = 115 ∨ tkK f n p = 108 then tkE f n (tkE f n (tkE f n (tkE f n p))) else tkE f n (tkE f n (tkE f n p))
theorem nxP_rng {f : Int → Int} {n p : Int} (hp : p ≤ n) (h : ¬ tkK f n p = -1) : tkS f n p < nxP f n p ∧ nxP f n p ≤ n := by
  have h1 := tkE_gt hp h
  have h2 := tkE_rng (f := f) hp
  have h3 := tkS_rng (f := f) h2.2
  have h4 := tkE_rng (f := f) h2.2
  have h5 := tkS_rng (f := f) h4.2
  have h6 := tkE_rng (f := f) h4.2
  have h7 := tkS_rng (f := f) h6.2
  have h8 := tkE_rng (f := f) h6.2
  unfold nxP
  split <;> omega
/-- a bed's numbers stay within bounds -/
theorem itB_W {f : Int → Int} {n be k it lt bt W : Int} (hW : 1 ≤ W ∧ W ≤ 12) (h : itB f n be k it lt bt W = true) : 1 ≤ (if k = 115 then tkV f n be * tkV f n (tkE f n be) else W) ∧ (if k = 115 then tkV f n be * tkV f n (tkE f n be) else W) ≤ 12 := by
  split
  · rename_i hk
    unfold itB at h
    rw [decide_eq_true_eq] at h
    have h1 : (2 ≤ tkV f n be ∧ tkV f n be ≤ 6) ∧ 1 ≤ tkV f n (tkE f n be) ∧ tkV f n (tkE f n be) ≤ 2 := by omega
    have h2 := mul_rng (a := tkV f n be - 1) (b := tkV f n (tkE f n be) - 1) (x := 5) (y := 1) (by omega) (by omega)
    rcases (show tkV f n (tkE f n be) = 1 ∨ tkV f n (tkE f n be) = 2 by omega) with e | e <;> rw [e] <;> omega
  · exact hW


theorem ftI_ge {f : Int → Int} {n p it lt bt W : Int} (hp : 0 ≤ p ∧ p ≤ n) : 0 ≤ ftI f n (tkE f n p) (tkK f n p) it lt bt W (tkS f n p) := by
  have h1 := tkS_rng (f := f) hp.2
  have h2 := tkE_rng (f := f) hp.2
  have h3 := tkS_rng (f := f) h2.2
  have h4 := tkE_rng (f := f) h2.2
  have h5 := tkS_rng (f := f) h4.2
  have h6 := tkE_rng (f := f) h4.2
  have h7 := tkS_rng (f := f) h6.2
  unfold ftI
  (repeat' split) <;> omega
theorem pd_X4_read : yX4_read.cls = RX4 ∧ yX4_read.cls ≠ "java/lang/invoke/MethodHandle" ∧ yX4_read.cls ≠ "java/lang/invoke/VarHandle" ∧ (parseMethodDescriptor yX4_read.desc).map (fun d => d.parameters.length) = some 0 := by decide +kernel
abbrev rmX4_read : Room := { frames := 5, cells := 0, slots := 0, locals := 105 }
set_option maxHeartbeats 4000000 in
set_option maxRecDepth 100000 in
theorem c_X4_read (l : Launch) (G : CX) (hr0 : Nat) (hd0 : Nat) (pl : Int) (be : Int) (to : Int) (nu : Int) (it : Int) (lt : Int) (bt : Int) (hx0 : Nat) (ax : Nat) (tf : Int → Int) (tn : Int) (ad : Nat) (TS : Int) (TC : Int) (TW : Int) (TL : Int) (TB : Int) (tl : Int → Int) (htn : 0 ≤ tn ∧ tn ≤ 200) (htf : ∀ i : Int, 0 ≤ i → i < tn → 0 ≤ tf i ∧ tf i ≤ 255) : Met l yX4_read wsX4_read rmX4_read (wrP G [.ref hr0] [(hr0, .inr (4, [.ref hx0, .ref hd0, .int (zI pl), .int (zI be), .int (zI to), .int (zI nu), .int (zI it), .int (zI lt), .int (zI bt)])), (hx0, .inr (6, [.ref ax, .int (zI tn)])), (ax, .inl (G.2.1, 200, .inl (aZ tf))), (hd0, .inr (0, [.int (zI TS), .int (zI TC), .int (zI TW), .int (zI TL), .int (zI TB), .ref ad])), (ad, .inl (G.2.1, 12, .inl (aZ tl)))]) (wrQ G [(hr0, .inr (4, [.ref hx0, .ref hd0, .int (zI pl), .int (zI be), .int (zI to), .int (zI nu), .int (zI it), .int (zI lt), .int (zI bt)])), (hx0, .inr (6, [.ref ax, .int (zI tn)])), (ax, .inl (G.2.1, 200, .inl (aZ tf))), (hd0, .inr (0, [.int (zI TS), .int (zI TC), .int (zI TW), .int (zI TL), .int (zI TB), .ref ad])), (ad, .inl (G.2.1, 12, .inl (aZ tl)))] (fun (r_ : Int32) (u : Int × Int × Int × Int × Int × Int × Int × Int × Int × Int × Int × Int × (Int → Int)) => match u with | (pl2, be2, to2, nu2, it2, lt2, bt2, TS2, TC2, TW2, TL2, TB2, tl2) => r_ = zI ((prZ tf tn).1) ∧ ((0 ≤ (prZ tf tn).1 → prZ tf tn = (it2, TS2, TC2, TW2, TL2, TB2, tl2)))) (fun (u : Int × Int × Int × Int × Int × Int × Int × Int × Int × Int × Int × Int × (Int → Int)) => match u with | (pl2, be2, to2, nu2, it2, lt2, bt2, TS2, TC2, TW2, TL2, TB2, tl2) => [(hr0, .inr (4, [.ref hx0, .ref hd0, .int (zI pl2), .int (zI be2), .int (zI to2), .int (zI nu2), .int (zI it2), .int (zI lt2), .int (zI bt2)])), (hx0, .inr (6, [.ref ax, .int (zI tn)])), (ax, .inl (G.2.1, 200, .inl (aZ tf))), (hd0, .inr (0, [.int (zI TS2), .int (zI TC2), .int (zI TW2), .int (zI TL2), .int (zI TB2), .ref ad])), (ad, .inl (G.2.1, 12, .inl (aZ tl2)))])) 0 0 (wrA [(hr0, .inr (4, [.ref hx0, .ref hd0, .int (zI pl), .int (zI be), .int (zI to), .int (zI nu), .int (zI it), .int (zI lt), .int (zI bt)])), (hx0, .inr (6, [.ref ax, .int (zI tn)])), (ax, .inl (G.2.1, 200, .inl (aZ tf))), (hd0, .inr (0, [.int (zI TS), .int (zI TC), .int (zI TW), .int (zI TL), .int (zI TB), .ref ad])), (ad, .inl (G.2.1, 12, .inl (aZ tl)))]) := by
  refine wr_ofW (cc := cX4_read) (maxL := 1) (ty := .int) (by decide) rfl (Nat.le_of_ble_eq_true rfl) ?_
  intro p e s m below meth c Q A hx hb hml hown hts hK hret H locs hP hD hS ls hl
  have hown : s.vm.findClass RX4 = some m.cls := hown
  have hl : lv_has ls 1 [(0, .ref hr0)] := hl
  have f12 := hts (.fieldLink RX4 12 "QuarterTurns$Reader" "told" "LQuarterTurns$Bed;") (by decide +kernel)
  have i4 : ∀ w ∈ wsX40, w ∈ wsX4_read := fun w h => List.mem_cons_of_mem _ (List.mem_append_left _ (List.mem_append_left _ (List.mem_append_right _ h)))
  have f25 := hts (.fieldLink RX4 25 "QuarterTurns$Reader" "behind" "I") (by decide +kernel)
  have f29 := hts (.fieldLink RX4 29 "QuarterTurns$Reader" "items" "I") (by decide +kernel)
  have f32 := hts (.fieldLink RX4 32 "QuarterTurns$Reader" "limitTold" "Z") (by decide +kernel)
  have f36 := hts (.fieldLink RX4 36 "QuarterTurns$Reader" "startTold" "Z") (by decide +kernel)
  have f42 := hts (.fieldLink RX4 42 "QuarterTurns$Reader" "token" "I") (by decide +kernel)
  have f49 := hts (.fieldLink RX4 49 "QuarterTurns$Reader" "place" "I") (by decide +kernel)
  refine lv_aload_n hx hb dX4_read_0 rfl (lv_at hl 0 rfl) ?_
  refine va_get (ci := 4) (v := .ref hd0) (C := RX4) (T := TX4) (N := 9) hx hb hts i4 hown hK hP 0 rfl rfl 1 (by decide) f12 (fun _ h9 => h9) rfl dX4_read_1 ?_
  refine z_wVv (As := []) (rest := []) ⟨hx, hb, hml, hown, hts⟩ (c_X0_reset l G hd0 ad TS TC TW TL TB tl ) (cwV 0 hts gX4_read_X0_reset rfl rfl rfl pd_X0_reset ⟨(Nat.le_of_ble_eq_true rfl), (Nat.le_of_ble_eq_true rfl)⟩) hK hP hD hS [3, 4] (by decide) rfl rfl rfl rfl (fun _ => rfl) rfl hl.1 rfl (Nat.le_of_ble_eq_true rfl) dX4_read_4 ⟨Nat.zero_le _, Nat.zero_le _⟩ (fun u_ H locs hw_1 hP hD hS => ?_)
  try dsimp only at hw_1
  have hP : kP G [(hr0, .inr (4, [.ref hx0, .ref hd0, .int (zI pl), .int (zI be), .int (zI to), .int (zI nu), .int (zI it), .int (zI lt), .int (zI bt)])), (hx0, .inr (6, [.ref ax, .int (zI tn)])), (ax, .inl (G.2.1, 200, .inl (aZ tf))), (hd0, .inr (0, [.int (zI 2), .int (zI 2), .int (zI (2 * 2)), .int (zI 20), .int (zI 0), .ref ad])), (ad, .inl (G.2.1, 12, .inl (aZ (fun _ => 1))))] H := hP
  have hD : va_D A [(hr0, .inr (4, [.ref hx0, .ref hd0, .int (zI pl), .int (zI be), .int (zI to), .int (zI nu), .int (zI it), .int (zI lt), .int (zI bt)])), (hx0, .inr (6, [.ref ax, .int (zI tn)])), (ax, .inl (G.2.1, 200, .inl (aZ tf))), (hd0, .inr (0, [.int (zI 2), .int (zI 2), .int (zI (2 * 2)), .int (zI 20), .int (zI 0), .ref ad])), (ad, .inl (G.2.1, 12, .inl (aZ (fun _ => 1))))] := hD
  refine lv_aload_n hx hb dX4_read_7 rfl (lv_at hl 0 rfl) ?_
  refine lv_iconst (v := zI 0) hx hb dX4_read_8 rfl ?_
  refine va_put (ci := 4) (v := .int (zI 0)) (ty := .int) (C := RX4) (T := TX4) (N := 9) hx hb hts i4 tyX4 tyX4_ok nmX4 hown hK hP hD hS 0 rfl rfl 3 (by decide) f25 (fun _ h9 => h9) rfl (tyX4_ok 3 (by decide)) rfl rfl (Nat.le_of_ble_eq_true rfl) dX4_read_9 (fun H locs hP hD hS => ?_)
  have hP : kP G [(hr0, .inr (4, [.ref hx0, .ref hd0, .int (zI pl), .int (zI 0), .int (zI to), .int (zI nu), .int (zI it), .int (zI lt), .int (zI bt)])), (hx0, .inr (6, [.ref ax, .int (zI tn)])), (ax, .inl (G.2.1, 200, .inl (aZ tf))), (hd0, .inr (0, [.int (zI 2), .int (zI 2), .int (zI (2 * 2)), .int (zI 20), .int (zI 0), .ref ad])), (ad, .inl (G.2.1, 12, .inl (aZ (fun _ => 1))))] H := hP
  have hD : va_D A [(hr0, .inr (4, [.ref hx0, .ref hd0, .int (zI pl), .int (zI 0), .int (zI to), .int (zI nu), .int (zI it), .int (zI lt), .int (zI bt)])), (hx0, .inr (6, [.ref ax, .int (zI tn)])), (ax, .inl (G.2.1, 200, .inl (aZ tf))), (hd0, .inr (0, [.int (zI 2), .int (zI 2), .int (zI (2 * 2)), .int (zI 20), .int (zI 0), .ref ad])), (ad, .inl (G.2.1, 12, .inl (aZ (fun _ => 1))))] := hD
  refine lv_aload_n hx hb dX4_read_12 rfl (lv_at hl 0 rfl) ?_
  refine lv_iconst (v := zI 0) hx hb dX4_read_13 rfl ?_
  refine va_put (ci := 4) (v := .int (zI 0)) (ty := .int) (C := RX4) (T := TX4) (N := 9) hx hb hts i4 tyX4 tyX4_ok nmX4 hown hK hP hD hS 0 rfl rfl 6 (by decide) f29 (fun _ h9 => h9) rfl (tyX4_ok 6 (by decide)) rfl rfl (Nat.le_of_ble_eq_true rfl) dX4_read_14 (fun H locs hP hD hS => ?_)
  have hP : kP G [(hr0, .inr (4, [.ref hx0, .ref hd0, .int (zI pl), .int (zI 0), .int (zI to), .int (zI nu), .int (zI 0), .int (zI lt), .int (zI bt)])), (hx0, .inr (6, [.ref ax, .int (zI tn)])), (ax, .inl (G.2.1, 200, .inl (aZ tf))), (hd0, .inr (0, [.int (zI 2), .int (zI 2), .int (zI (2 * 2)), .int (zI 20), .int (zI 0), .ref ad])), (ad, .inl (G.2.1, 12, .inl (aZ (fun _ => 1))))] H := hP
  have hD : va_D A [(hr0, .inr (4, [.ref hx0, .ref hd0, .int (zI pl), .int (zI 0), .int (zI to), .int (zI nu), .int (zI 0), .int (zI lt), .int (zI bt)])), (hx0, .inr (6, [.ref ax, .int (zI tn)])), (ax, .inl (G.2.1, 200, .inl (aZ tf))), (hd0, .inr (0, [.int (zI 2), .int (zI 2), .int (zI (2 * 2)), .int (zI 20), .int (zI 0), .ref ad])), (ad, .inl (G.2.1, 12, .inl (aZ (fun _ => 1))))] := hD
  refine lv_aload_n hx hb dX4_read_17 rfl (lv_at hl 0 rfl) ?_
  refine lv_iconst (v := zI 0) hx hb dX4_read_18 rfl ?_
  refine va_put (ci := 4) (v := .int (zI 0)) (ty := .boolean) (C := RX4) (T := TX4) (N := 9) hx hb hts i4 tyX4 tyX4_ok nmX4 hown hK hP hD hS 0 rfl rfl 7 (by decide) f32 (fun _ h9 => h9) rfl (tyX4_ok 7 (by decide)) (by decide) (by decide) (Nat.le_of_ble_eq_true rfl) dX4_read_19 (fun H locs hP hD hS => ?_)
  have hP : kP G [(hr0, .inr (4, [.ref hx0, .ref hd0, .int (zI pl), .int (zI 0), .int (zI to), .int (zI nu), .int (zI 0), .int (zI 0), .int (zI bt)])), (hx0, .inr (6, [.ref ax, .int (zI tn)])), (ax, .inl (G.2.1, 200, .inl (aZ tf))), (hd0, .inr (0, [.int (zI 2), .int (zI 2), .int (zI (2 * 2)), .int (zI 20), .int (zI 0), .ref ad])), (ad, .inl (G.2.1, 12, .inl (aZ (fun _ => 1))))] H := hP
  have hD : va_D A [(hr0, .inr (4, [.ref hx0, .ref hd0, .int (zI pl), .int (zI 0), .int (zI to), .int (zI nu), .int (zI 0), .int (zI 0), .int (zI bt)])), (hx0, .inr (6, [.ref ax, .int (zI tn)])), (ax, .inl (G.2.1, 200, .inl (aZ tf))), (hd0, .inr (0, [.int (zI 2), .int (zI 2), .int (zI (2 * 2)), .int (zI 20), .int (zI 0), .ref ad])), (ad, .inl (G.2.1, 12, .inl (aZ (fun _ => 1))))] := hD
  refine lv_aload_n hx hb dX4_read_22 rfl (lv_at hl 0 rfl) ?_
  refine lv_iconst (v := zI 0) hx hb dX4_read_23 rfl ?_
  refine va_put (ci := 4) (v := .int (zI 0)) (ty := .boolean) (C := RX4) (T := TX4) (N := 9) hx hb hts i4 tyX4 tyX4_ok nmX4 hown hK hP hD hS 0 rfl rfl 8 (by decide) f36 (fun _ h9 => h9) rfl (tyX4_ok 8 (by decide)) (by decide) (by decide) (Nat.le_of_ble_eq_true rfl) dX4_read_24 (fun H locs hP hD hS => ?_)
  have hP : kP G [(hr0, .inr (4, [.ref hx0, .ref hd0, .int (zI pl), .int (zI 0), .int (zI to), .int (zI nu), .int (zI 0), .int (zI 0), .int (zI 0)])), (hx0, .inr (6, [.ref ax, .int (zI tn)])), (ax, .inl (G.2.1, 200, .inl (aZ tf))), (hd0, .inr (0, [.int (zI 2), .int (zI 2), .int (zI (2 * 2)), .int (zI 20), .int (zI 0), .ref ad])), (ad, .inl (G.2.1, 12, .inl (aZ (fun _ => 1))))] H := hP
  have hD : va_D A [(hr0, .inr (4, [.ref hx0, .ref hd0, .int (zI pl), .int (zI 0), .int (zI to), .int (zI nu), .int (zI 0), .int (zI 0), .int (zI 0)])), (hx0, .inr (6, [.ref ax, .int (zI tn)])), (ax, .inl (G.2.1, 200, .inl (aZ tf))), (hd0, .inr (0, [.int (zI 2), .int (zI 2), .int (zI (2 * 2)), .int (zI 20), .int (zI 0), .ref ad])), (ad, .inl (G.2.1, 12, .inl (aZ (fun _ => 1))))] := hD
  refine lv_aload_n hx hb dX4_read_27 rfl (lv_at hl 0 rfl) ?_
  refine z_wVv (As := []) (rest := []) ⟨hx, hb, hml, hown, hts⟩ (c_X4_step l G hr0 hd0 pl 0 to nu 0 0 0 hx0 ax tf tn (by first | assumption | omega) (by first | assumption | omega) (by first | assumption | omega)) (cwV 0 hts gX4_read_X4_step rfl rfl rfl pd_X4_step ⟨(Nat.le_of_ble_eq_true rfl), (Nat.le_of_ble_eq_true rfl)⟩) hK hP hD hS [0, 1, 2] (by decide) rfl rfl rfl rfl (fun _ => rfl) rfl hl.1 rfl (Nat.le_of_ble_eq_true rfl) dX4_read_28 ⟨Nat.zero_le _, Nat.zero_le _⟩ (fun u_ H locs hw_6 hP hD hS => ?_)
  obtain ⟨pl2_2, be2_3, to2_4, nu2_5⟩ := u_
  try dsimp only at hw_6
  obtain ⟨rfl, rfl, rfl, hnu_7⟩ := hw_6
  have hP : kP G [(hr0, .inr (4, [.ref hx0, .ref hd0, .int (zI (tkS tf tn 0)), .int (zI (tkE tf tn 0)), .int (zI (tkK tf tn 0)), .int (zI nu2_5), .int (zI 0), .int (zI 0), .int (zI 0)])), (hx0, .inr (6, [.ref ax, .int (zI tn)])), (ax, .inl (G.2.1, 200, .inl (aZ tf))), (hd0, .inr (0, [.int (zI 2), .int (zI 2), .int (zI (2 * 2)), .int (zI 20), .int (zI 0), .ref ad])), (ad, .inl (G.2.1, 12, .inl (aZ (fun _ => 1))))] H := hP
  have hD : va_D A [(hr0, .inr (4, [.ref hx0, .ref hd0, .int (zI (tkS tf tn 0)), .int (zI (tkE tf tn 0)), .int (zI (tkK tf tn 0)), .int (zI nu2_5), .int (zI 0), .int (zI 0), .int (zI 0)])), (hx0, .inr (6, [.ref ax, .int (zI tn)])), (ax, .inl (G.2.1, 200, .inl (aZ tf))), (hd0, .inr (0, [.int (zI 2), .int (zI 2), .int (zI (2 * 2)), .int (zI 20), .int (zI 0), .ref ad])), (ad, .inl (G.2.1, 12, .inl (aZ (fun _ => 1))))] := hD
  have hq_8 := tkS_rng (f := tf) (n := tn) (p := 0) (by omega)
  have hq_9 := tkE_rng (f := tf) (n := tn) (p := 0) (by omega)
  have hq_10 := tkK_rng (f := tf) (n := tn) (p := 0) (by omega) (by first | assumption | omega)
  have hq_11 := tkV_rng (f := tf) (n := tn) (p := 0)
  have loop31 : ∀ (n_ : Nat) (po : Int) (i : Int) (Sv : Int) (Cv : Int) (Wv : Int) (Lv : Int) (Bv : Int) (xv : Int) (yv : Int) (g : Int → Int) (v : Int) (H : Heap) (locs : List Loc) (ls : Array Slot), (0 ≤ po ∧ po ≤ tn) → (0 ≤ i ∧ i ≤ tkS tf tn po) → (1 ≤ Wv ∧ Wv ≤ 12) → ((xv = 0 ∨ xv = 1) ∧ (yv = 0 ∨ yv = 1)) → (prG tf tn (200 - i).toNat po i Sv Cv Wv Lv Bv xv yv g = prZ tf tn) → (201 - i).toNat < n_ → kP G [(hr0, .inr (4, [.ref hx0, .ref hd0, .int (zI (tkS tf tn po)), .int (zI (tkE tf tn po)), .int (zI (tkK tf tn po)), .int (zI v), .int (zI i), .int (zI xv), .int (zI yv)])), (hx0, .inr (6, [.ref ax, .int (zI tn)])), (ax, .inl (G.2.1, 200, .inl (aZ tf))), (hd0, .inr (0, [.int (zI Sv), .int (zI Cv), .int (zI Wv), .int (zI Lv), .int (zI Bv), .ref ad])), (ad, .inl (G.2.1, 12, .inl (aZ g)))] H → va_D A [(hr0, .inr (4, [.ref hx0, .ref hd0, .int (zI (tkS tf tn po)), .int (zI (tkE tf tn po)), .int (zI (tkK tf tn po)), .int (zI v), .int (zI i), .int (zI xv), .int (zI yv)])), (hx0, .inr (6, [.ref ax, .int (zI tn)])), (ax, .inl (G.2.1, 200, .inl (aZ tf))), (hd0, .inr (0, [.int (zI Sv), .int (zI Cv), .int (zI Wv), .int (zI Lv), .int (zI Bv), .ref ad])), (ad, .inl (G.2.1, 12, .inl (aZ g)))] → va_S A s.heap H locs → lv_has ls 1 [(0, .ref hr0)] → W p l e rmX4_read s m ([.ref hr0] : List Value).toArray below meth c H locs 0 0 Q (F0 m 31 ls []) := by
    intro n_
    induction n_ with
    | zero =>
      intro po i Sv Cv Wv Lv Bv xv yv g v H locs ls hp hi hW hxy hpr hm
      exact absurd hm (Nat.not_lt_zero _)
    | succ n_ ih31 =>
      intro po i Sv Cv Wv Lv Bv xv yv g v H locs ls hp hi hW hxy hpr hm31 hP hD hS hl
      have hSr := tkS_rng (f := tf) (n := tn) (p := po) (by omega)
      have hEr := tkE_rng (f := tf) (n := tn) (p := po) (by omega)
      have hKr := tkK_rng (f := tf) (n := tn) (p := po) hp htf
      refine lv_aload_n hx hb dX4_read_31 rfl (lv_at hl 0 rfl) ?_
      refine va_get (ci := 4) (v := .int (zI (tkK tf tn po))) (C := RX4) (T := TX4) (N := 9) hx hb hts i4 hown hK hP 0 rfl rfl 4 (by decide) f42 (fun _ h9 => h9) rfl dX4_read_32 ?_
      refine lv_iconst (v := zI (-1)) hx hb dX4_read_35 rfl ?_
      refine z_icmp_eq (tgt := 81) hx hb (by omega) dX4_read_36 (by decide) (fun c_12 => ?_) (fun c_12 => ?_)
      · have hpe := prG_end (it := i) (S := Sv) (C := Cv) (W := Wv) (L := Lv) (B := Bv) (lt := xv) (bt := yv) (ld := g) (by assumption : tkK tf tn po = -1) (200 - i).toNat
        rw [hpr] at hpe
        refine lv_aload_n hx hb dX4_read_81 rfl (lv_at hl 0 rfl) ?_
        refine va_get (ci := 4) (v := .int (zI i)) (C := RX4) (T := TX4) (N := 9) hx hb hts i4 hown hK hP 0 rfl rfl 6 (by decide) f29 (fun _ h9 => h9) rfl dX4_read_82 ?_
        exact hret H locs ls 85 _ (tkS tf tn po, tkE tf tn po, tkK tf tn po, v, i, xv, yv, Sv, Cv, Wv, Lv, Bv, g) rfl ⟨congrArg zI (by rw [hpe]), by intro _; exact hpe⟩ hP hS dX4_read_85
      · have hgt := tkE_gt (f := tf) (n := tn) (p := po) (by omega) (by assumption)
        refine lv_aload_n hx hb dX4_read_39 rfl (lv_at hl 0 rfl) ?_
        refine va_get (ci := 4) (v := .int (zI i)) (C := RX4) (T := TX4) (N := 9) hx hb hts i4 hown hK hP 0 rfl rfl 6 (by decide) f29 (fun _ h9 => h9) rfl dX4_read_40 ?_
        refine lv_sipush (v := zI 200) hx hb dX4_read_43 (by decide) ?_
        refine z_icmp_ge (tgt := 81) hx hb (by omega) dX4_read_46 (by decide) (fun c_13 => ?_) (fun c_13 => ?_)
        · exact absurd c_13 (by omega)
        · refine lv_aload_n hx hb dX4_read_49 rfl (lv_at hl 0 rfl) ?_
          refine z_wV (As := []) (rest := []) ⟨hx, hb, hml, hown, hts⟩ (c_X4_readItem l G hr0 hd0 (tkS tf tn po) (tkE tf tn po) (tkK tf tn po) v i xv yv hx0 ax tf tn ad Sv Cv Wv Lv Bv g (by first | assumption | omega) (by first | assumption | omega) (by first | assumption | omega) (by first | assumption | omega) (by first | assumption | omega) (by first | assumption | omega) (by first | assumption | omega)) (cwV 0 hts gX4_read_X4_readItem rfl rfl rfl pd_X4_readItem ⟨(Nat.le_of_ble_eq_true rfl), (Nat.le_of_ble_eq_true rfl)⟩) hK hP hD hS [0, 1, 2, 3, 4] (by decide) rfl rfl rfl rfl (fun _ => rfl) rfl hl.1 rfl (Nat.le_of_ble_eq_true rfl) dX4_read_50 ⟨Nat.zero_le _, Nat.zero_le _⟩ (fun r_ u_ H locs hw_26 hP hD hS => ?_)
          obtain ⟨pl2_14, be2_15, to2_16, nu2_17, lt2_18, bt2_19, TS2_20, TC2_21, TW2_22, TL2_23, TB2_24, tl2_25⟩ := u_
          obtain ⟨rfl, hw_26⟩ := hw_26
          try dsimp only at hw_26
          obtain ⟨hA_27, hB_28, hE_29⟩ := hw_26
          have hP : kP G [(hr0, .inr (4, [.ref hx0, .ref hd0, .int (zI pl2_14), .int (zI be2_15), .int (zI to2_16), .int (zI nu2_17), .int (zI i), .int (zI lt2_18), .int (zI bt2_19)])), (hx0, .inr (6, [.ref ax, .int (zI tn)])), (ax, .inl (G.2.1, 200, .inl (aZ tf))), (hd0, .inr (0, [.int (zI TS2_20), .int (zI TC2_21), .int (zI TW2_22), .int (zI TL2_23), .int (zI TB2_24), .ref ad])), (ad, .inl (G.2.1, 12, .inl (aZ tl2_25)))] H := hP
          have hD : va_D A [(hr0, .inr (4, [.ref hx0, .ref hd0, .int (zI pl2_14), .int (zI be2_15), .int (zI to2_16), .int (zI nu2_17), .int (zI i), .int (zI lt2_18), .int (zI bt2_19)])), (hx0, .inr (6, [.ref ax, .int (zI tn)])), (ax, .inl (G.2.1, 200, .inl (aZ tf))), (hd0, .inr (0, [.int (zI TS2_20), .int (zI TC2_21), .int (zI TW2_22), .int (zI TL2_23), .int (zI TB2_24), .ref ad])), (ad, .inl (G.2.1, 12, .inl (aZ tl2_25)))] := hD
          refine z_ifne_b (tgt := 64) hx hb dX4_read_53 (by decide) (fun c_30 => ?_) (fun c_30 => ?_)
          · obtain ⟨rfl, rfl, rfl, rfl, rfl, rfl, rfl, rfl, rfl⟩ := hA_27 (by assumption)
            have hP : kP G [(hr0, .inr (4, [.ref hx0, .ref hd0, .int (zI pl2_14), .int (zI (nxP tf tn po)), .int (zI to2_16), .int (zI nu2_17), .int (zI i), .int (zI (if tkK tf tn po = 109 then 1 else xv)), .int (zI (if tkK tf tn po = 98 then 1 else yv))])), (hx0, .inr (6, [.ref ax, .int (zI tn)])), (ax, .inl (G.2.1, 200, .inl (aZ tf))), (hd0, .inr (0, [.int (zI (if tkK tf tn po = 115 then tkV tf tn (tkE tf tn po) else Sv)), .int (zI (if tkK tf tn po = 115 then tkV tf tn (tkE tf tn (tkE tf tn po)) else Cv)), .int (zI (if tkK tf tn po = 115 then tkV tf tn (tkE tf tn po) * tkV tf tn (tkE tf tn (tkE tf tn po)) else Wv)), .int (zI (if tkK tf tn po = 109 then tkV tf tn (tkE tf tn po) else Lv)), .int (zI (if tkK tf tn po = 98 then tkV tf tn (tkE tf tn po) else Bv)), .ref ad])), (ad, .inl (G.2.1, 12, .inl (aZ (if tkK tf tn po = 108 then uZ g (tkV tf tn (tkE tf tn po)) (tkV tf tn (tkE tf tn (tkE tf tn po))) else g))))] H := hP
            have hD : va_D A [(hr0, .inr (4, [.ref hx0, .ref hd0, .int (zI pl2_14), .int (zI (nxP tf tn po)), .int (zI to2_16), .int (zI nu2_17), .int (zI i), .int (zI (if tkK tf tn po = 109 then 1 else xv)), .int (zI (if tkK tf tn po = 98 then 1 else yv))])), (hx0, .inr (6, [.ref ax, .int (zI tn)])), (ax, .inl (G.2.1, 200, .inl (aZ tf))), (hd0, .inr (0, [.int (zI (if tkK tf tn po = 115 then tkV tf tn (tkE tf tn po) else Sv)), .int (zI (if tkK tf tn po = 115 then tkV tf tn (tkE tf tn (tkE tf tn po)) else Cv)), .int (zI (if tkK tf tn po = 115 then tkV tf tn (tkE tf tn po) * tkV tf tn (tkE tf tn (tkE tf tn po)) else Wv)), .int (zI (if tkK tf tn po = 109 then tkV tf tn (tkE tf tn po) else Lv)), .int (zI (if tkK tf tn po = 98 then tkV tf tn (tkE tf tn po) else Bv)), .ref ad])), (ad, .inl (G.2.1, 12, .inl (aZ (if tkK tf tn po = 108 then uZ g (tkV tf tn (tkE tf tn po)) (tkV tf tn (tkE tf tn (tkE tf tn po))) else g))))] := hD
            have hnx := nxP_rng (f := tf) (n := tn) (p := po) (by omega) (by omega)
            have hok : itB tf tn (tkE tf tn po) (tkK tf tn po) i xv yv Wv = true := by assumption
            have hWb := itB_W hW hok
            refine lv_aload_n hx hb dX4_read_64 rfl (lv_at hl 0 rfl) ?_
            refine lv_dup hx hb dX4_read_65 rfl ?_
            refine va_get (ci := 4) (v := .int (zI i)) (C := RX4) (T := TX4) (N := 9) hx hb hts i4 hown hK hP 0 rfl rfl 6 (by decide) f29 (fun _ h9 => h9) rfl dX4_read_66 ?_
            refine lv_iconst (v := zI 1) hx hb dX4_read_69 rfl ?_
            refine z_iadd hx hb dX4_read_70 ?_
            refine va_put (ci := 4) (v := .int (zI (i + 1))) (ty := .int) (C := RX4) (T := TX4) (N := 9) hx hb hts i4 tyX4 tyX4_ok nmX4 hown hK hP hD hS 0 rfl rfl 6 (by decide) f29 (fun _ h9 => h9) rfl (tyX4_ok 6 (by decide)) rfl rfl (Nat.le_of_ble_eq_true rfl) dX4_read_71 (fun H locs hP hD hS => ?_)
            have hP : kP G [(hr0, .inr (4, [.ref hx0, .ref hd0, .int (zI pl2_14), .int (zI (nxP tf tn po)), .int (zI to2_16), .int (zI nu2_17), .int (zI (i + 1)), .int (zI (if tkK tf tn po = 109 then 1 else xv)), .int (zI (if tkK tf tn po = 98 then 1 else yv))])), (hx0, .inr (6, [.ref ax, .int (zI tn)])), (ax, .inl (G.2.1, 200, .inl (aZ tf))), (hd0, .inr (0, [.int (zI (if tkK tf tn po = 115 then tkV tf tn (tkE tf tn po) else Sv)), .int (zI (if tkK tf tn po = 115 then tkV tf tn (tkE tf tn (tkE tf tn po)) else Cv)), .int (zI (if tkK tf tn po = 115 then tkV tf tn (tkE tf tn po) * tkV tf tn (tkE tf tn (tkE tf tn po)) else Wv)), .int (zI (if tkK tf tn po = 109 then tkV tf tn (tkE tf tn po) else Lv)), .int (zI (if tkK tf tn po = 98 then tkV tf tn (tkE tf tn po) else Bv)), .ref ad])), (ad, .inl (G.2.1, 12, .inl (aZ (if tkK tf tn po = 108 then uZ g (tkV tf tn (tkE tf tn po)) (tkV tf tn (tkE tf tn (tkE tf tn po))) else g))))] H := hP
            have hD : va_D A [(hr0, .inr (4, [.ref hx0, .ref hd0, .int (zI pl2_14), .int (zI (nxP tf tn po)), .int (zI to2_16), .int (zI nu2_17), .int (zI (i + 1)), .int (zI (if tkK tf tn po = 109 then 1 else xv)), .int (zI (if tkK tf tn po = 98 then 1 else yv))])), (hx0, .inr (6, [.ref ax, .int (zI tn)])), (ax, .inl (G.2.1, 200, .inl (aZ tf))), (hd0, .inr (0, [.int (zI (if tkK tf tn po = 115 then tkV tf tn (tkE tf tn po) else Sv)), .int (zI (if tkK tf tn po = 115 then tkV tf tn (tkE tf tn (tkE tf tn po)) else Cv)), .int (zI (if tkK tf tn po = 115 then tkV tf tn (tkE tf tn po) * tkV tf tn (tkE tf tn (tkE tf tn po)) else Wv)), .int (zI (if tkK tf tn po = 109 then tkV tf tn (tkE tf tn po) else Lv)), .int (zI (if tkK tf tn po = 98 then tkV tf tn (tkE tf tn po) else Bv)), .ref ad])), (ad, .inl (G.2.1, 12, .inl (aZ (if tkK tf tn po = 108 then uZ g (tkV tf tn (tkE tf tn po)) (tkV tf tn (tkE tf tn (tkE tf tn po))) else g))))] := hD
            refine lv_aload_n hx hb dX4_read_74 rfl (lv_at hl 0 rfl) ?_
            refine z_wVv (As := []) (rest := []) ⟨hx, hb, hml, hown, hts⟩ (c_X4_step l G hr0 hd0 pl2_14 (nxP tf tn po) to2_16 nu2_17 (i + 1) (if tkK tf tn po = 109 then 1 else xv) (if tkK tf tn po = 98 then 1 else yv) hx0 ax tf tn (by first | assumption | omega) (by first | assumption | omega) (by first | assumption | omega)) (cwV 0 hts gX4_read_X4_step rfl rfl rfl pd_X4_step ⟨(Nat.le_of_ble_eq_true rfl), (Nat.le_of_ble_eq_true rfl)⟩) hK hP hD hS [0, 1, 2] (by decide) rfl rfl rfl rfl (fun _ => rfl) rfl hl.1 rfl (Nat.le_of_ble_eq_true rfl) dX4_read_75 ⟨Nat.zero_le _, Nat.zero_le _⟩ (fun u_ H locs hw_35 hP hD hS => ?_)
            obtain ⟨pl2_31, be2_32, to2_33, nu2_34⟩ := u_
            try dsimp only at hw_35
            obtain ⟨rfl, rfl, rfl, hnu_36⟩ := hw_35
            have hP : kP G [(hr0, .inr (4, [.ref hx0, .ref hd0, .int (zI (tkS tf tn (nxP tf tn po))), .int (zI (tkE tf tn (nxP tf tn po))), .int (zI (tkK tf tn (nxP tf tn po))), .int (zI nu2_34), .int (zI (i + 1)), .int (zI (if tkK tf tn po = 109 then 1 else xv)), .int (zI (if tkK tf tn po = 98 then 1 else yv))])), (hx0, .inr (6, [.ref ax, .int (zI tn)])), (ax, .inl (G.2.1, 200, .inl (aZ tf))), (hd0, .inr (0, [.int (zI (if tkK tf tn po = 115 then tkV tf tn (tkE tf tn po) else Sv)), .int (zI (if tkK tf tn po = 115 then tkV tf tn (tkE tf tn (tkE tf tn po)) else Cv)), .int (zI (if tkK tf tn po = 115 then tkV tf tn (tkE tf tn po) * tkV tf tn (tkE tf tn (tkE tf tn po)) else Wv)), .int (zI (if tkK tf tn po = 109 then tkV tf tn (tkE tf tn po) else Lv)), .int (zI (if tkK tf tn po = 98 then tkV tf tn (tkE tf tn po) else Bv)), .ref ad])), (ad, .inl (G.2.1, 12, .inl (aZ (if tkK tf tn po = 108 then uZ g (tkV tf tn (tkE tf tn po)) (tkV tf tn (tkE tf tn (tkE tf tn po))) else g))))] H := hP
            have hD : va_D A [(hr0, .inr (4, [.ref hx0, .ref hd0, .int (zI (tkS tf tn (nxP tf tn po))), .int (zI (tkE tf tn (nxP tf tn po))), .int (zI (tkK tf tn (nxP tf tn po))), .int (zI nu2_34), .int (zI (i + 1)), .int (zI (if tkK tf tn po = 109 then 1 else xv)), .int (zI (if tkK tf tn po = 98 then 1 else yv))])), (hx0, .inr (6, [.ref ax, .int (zI tn)])), (ax, .inl (G.2.1, 200, .inl (aZ tf))), (hd0, .inr (0, [.int (zI (if tkK tf tn po = 115 then tkV tf tn (tkE tf tn po) else Sv)), .int (zI (if tkK tf tn po = 115 then tkV tf tn (tkE tf tn (tkE tf tn po)) else Cv)), .int (zI (if tkK tf tn po = 115 then tkV tf tn (tkE tf tn po) * tkV tf tn (tkE tf tn (tkE tf tn po)) else Wv)), .int (zI (if tkK tf tn po = 109 then tkV tf tn (tkE tf tn po) else Lv)), .int (zI (if tkK tf tn po = 98 then tkV tf tn (tkE tf tn po) else Bv)), .ref ad])), (ad, .inl (G.2.1, 12, .inl (aZ (if tkK tf tn po = 108 then uZ g (tkV tf tn (tkE tf tn po)) (tkV tf tn (tkE tf tn (tkE tf tn po))) else g))))] := hD
            have hq_37 := tkS_rng (f := tf) (n := tn) (p := (nxP tf tn po)) (by omega)
            have hq_38 := tkE_rng (f := tf) (n := tn) (p := (nxP tf tn po)) (by omega)
            have hq_39 := tkK_rng (f := tf) (n := tn) (p := (nxP tf tn po)) (by omega) (by first | assumption | omega)
            have hq_40 := tkV_rng (f := tf) (n := tn) (p := (nxP tf tn po))
            refine lv_goto (tgt := 31) hx hb dX4_read_78 (by decide) ?_
            exact ih31 (nxP tf tn po) (i + 1) (if tkK tf tn po = 115 then tkV tf tn (tkE tf tn po) else Sv) (if tkK tf tn po = 115 then tkV tf tn (tkE tf tn (tkE tf tn po)) else Cv) (if tkK tf tn po = 115 then tkV tf tn (tkE tf tn po) * tkV tf tn (tkE tf tn (tkE tf tn po)) else Wv) (if tkK tf tn po = 109 then tkV tf tn (tkE tf tn po) else Lv) (if tkK tf tn po = 98 then tkV tf tn (tkE tf tn po) else Bv) (if tkK tf tn po = 109 then 1 else xv) (if tkK tf tn po = 98 then 1 else yv) (if tkK tf tn po = 108 then uZ g (tkV tf tn (tkE tf tn po)) (tkV tf tn (tkE tf tn (tkE tf tn po))) else g) nu2_34 H locs ls (by omega) (by omega) (by omega) (by split <;> split <;> omega) (by rw [← hpr, show (200 - i).toNat = (200 - (i + 1)).toNat + 1 by omega, prG_ok (by assumption) hok]; rfl) (by omega) hP hD hS (lv_sub hl [0] rfl)
          · have hbad := hB_28 (by assumption)
            have hbp := prG_bad (k := (200 - (i + 1)).toNat) (S := Sv) (C := Cv) (L := Lv) (B := Bv) (ld := g) (by assumption : ¬ tkK tf tn po = -1) (by assumption : ¬ itB tf tn (tkE tf tn po) (tkK tf tn po) i xv yv Wv = true)
            rw [← show (200 - i).toNat = (200 - (i + 1)).toNat + 1 by omega, hpr] at hbp
            refine lv_bipush (v := zI (-10)) hx hb dX4_read_56 (by decide) ?_
            refine lv_aload_n hx hb dX4_read_58 rfl (lv_at hl 0 rfl) ?_
            refine va_get (ci := 4) (v := .int (zI pl2_14)) (C := RX4) (T := TX4) (N := 9) hx hb hts i4 hown hK hP 0 rfl rfl 2 (by decide) f49 (fun _ h9 => h9) rfl dX4_read_59 ?_
            refine z_isub hx hb dX4_read_62 ?_
            exact hret H locs ls 63 _ (pl2_14, be2_15, to2_16, nu2_17, i, lt2_18, bt2_19, TS2_20, TC2_21, TW2_22, TL2_23, TB2_24, tl2_25) rfl ⟨congrArg zI (by rw [hbp, hbad]), by rw [hbp]; intro h; exfalso; have := ftI_ge (f := tf) (n := tn) (p := po) (it := i) (lt := xv) (bt := yv) (W := Wv) hp; dsimp only at h; omega⟩ hP hS dX4_read_63
  exact loop31 _ 0 0 2 2 (2 * 2) 20 0 0 0 (fun _ => 1) nu2_5 H locs ls (by omega) (by omega) (by omega) (by omega) rfl (Nat.lt_succ_self _) hP hD hS (lv_sub hl [0] rfl)
