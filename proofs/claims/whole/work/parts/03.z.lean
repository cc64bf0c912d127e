/-! NUMBERS: an Int32 told by an Int -/
def zI (a : Int) : Int32 := Int32.ofInt a
abbrev zR (a : Int) : Prop := -2147483648 ≤ a ∧ a < 2147483648
theorem zI_toInt {a : Int} (h : zR a) : (zI a).toInt = a := Int32.toInt_ofInt_of_le (by have := h.1; omega) (by have := h.2; omega)
theorem zI_of (x : Int32) : zI x.toInt = x := Int32.ofInt_toInt x
theorem zI_rng (x : Int32) : zR x.toInt := ⟨by have := x.le_toInt; omega, by have := x.toInt_lt; omega⟩
theorem zI_add (a b : Int) : zI a + zI b = zI (a + b) := (Int32.ofInt_add a b).symm
theorem zI_sub (a b : Int) : zI a - zI b = zI (a - b) := (Int32.ofInt_sub a b).symm
theorem zI_mul (a b : Int) : zI a * zI b = zI (a * b) := (Int32.ofInt_mul a b).symm
theorem zI_neg (a : Int) : -zI a = zI (-a) := (Int32.ofInt_neg a).symm
theorem zI_lt {a b : Int} (ha : zR a) (hb : zR b) : zI a < zI b ↔ a < b := by
  rw [Int32.lt_iff_toInt_lt, zI_toInt ha, zI_toInt hb]
theorem zI_le {a b : Int} (ha : zR a) (hb : zR b) : zI a ≤ zI b ↔ a ≤ b := by
  rw [Int32.le_iff_toInt_le, zI_toInt ha, zI_toInt hb]
theorem zI_eq {a b : Int} (ha : zR a) (hb : zR b) : zI a = zI b ↔ a = b := by
  rw [← Int32.toInt_inj, zI_toInt ha, zI_toInt hb]
theorem zI_0 : zI 0 = 0 := rfl
theorem zI_1 : zI 1 = 1 := rfl
theorem zI_nat (n : Nat) : zI (n : Int) = nI n := Int32.ofInt_eq_ofNat
theorem zI_cl {a : Int} (h0 : 0 ≤ a) (h : a < 2147483648) : (zI a).toNatClampNeg = a.toNat := by
  show (zI a).toInt.toNat = a.toNat
  rw [zI_toInt ⟨by omega, h⟩]
theorem zI_in {a : Int} {n : Nat} (h0 : 0 ≤ a) (h : a < n) (hn : n < 2147483648) : vp_in (zI a) n := by
  rw [vp_in_iff, zI_toInt ⟨by omega, by omega⟩]
  exact ⟨h0, h⟩
theorem zI_div {a b : Int} (ha : 0 ≤ a) (ha2 : a < 2147483648) (hb : 0 < b) (hb2 : b < 2147483648) : zI a / zI b = zI (a / b) := by
  obtain ⟨x, rfl⟩ := Int.eq_ofNat_of_zero_le ha
  obtain ⟨y, rfl⟩ := Int.eq_ofNat_of_zero_le (Int.le_of_lt hb)
  rw [zI_nat, zI_nat, pk_div (by omega) (by omega) (by omega), ← zI_nat, Int.natCast_ediv]
theorem zI_rem {a b : Int} (ha : 0 ≤ a) (ha2 : a < 2147483648) (hb : 0 < b) (hb2 : b < 2147483648) : zI a - zI a / zI b * zI b = zI (a % b) := by
  obtain ⟨x, rfl⟩ := Int.eq_ofNat_of_zero_le ha
  obtain ⟨y, rfl⟩ := Int.eq_ofNat_of_zero_le (Int.le_of_lt hb)
  rw [zI_nat, zI_nat, pk_rem (by omega) (by omega) (by omega), ← zI_nat, Int.natCast_emod]
theorem zI_or (a b : Nat) : zI (a : Int) ||| zI (b : Int) = zI ((a ||| b : Nat) : Int) := by
  rw [zI_nat, zI_nat, zI_nat]
  apply Int32.toBitVec_inj.mp
  simp [nI, BitVec.ofNat_or]
theorem zI_and (a b : Nat) : zI (a : Int) &&& zI (b : Int) = zI ((a &&& b : Nat) : Int) := by
  rw [zI_nat, zI_nat, zI_nat]
  apply Int32.toBitVec_inj.mp
  simp [nI, BitVec.ofNat_and]
theorem zI_s_l : ∀ n, n < 32 → ((nI n &&& 31).toBitVec.smod 32).toNat = n := by decide +kernel
theorem zI_shl (a : Nat) {k : Int} (h0 : 0 ≤ k) (hk : k < 31) (ha : a * 2 ^ k.toNat < 2 ^ 32) : zI (a : Int) <<< (zI k &&& 31) = zI ((a * 2 ^ k.toNat : Nat) : Int) := by
  obtain ⟨x, rfl⟩ := Int.eq_ofNat_of_zero_le h0
  rw [zI_nat, zI_nat, zI_nat]
  exact pk_shlN _ x (zI_s_l x (by omega)) ha
theorem zI_shl1 {k : Int} (h0 : 0 ≤ k) (hk : k < 31) : zI 1 <<< (zI k &&& 31) = zI ((2 ^ k.toNat : Nat) : Int) := by
  have h := zI_shl 1 h0 hk (by
    rw [Nat.one_mul]
    exact Nat.pow_lt_pow_right (by omega) (by omega))
  rw [Nat.one_mul] at h
  exact h
theorem zI_shr {a : Nat} {k : Int} (ha : a < 2147483648) (h0 : 0 ≤ k) (hk : k < 31) : zI (a : Int) >>> (zI k &&& 31) = zI ((a >>> k.toNat : Nat) : Int) := by
  obtain ⟨x, rfl⟩ := Int.eq_ofNat_of_zero_le h0
  rw [zI_nat, zI_nat, zI_nat, pk_shrN (by omega) _ x (zI_s_l x (by omega)), Nat.shiftRight_eq_div_pow]
  rfl
/-! ARRAYS told by functions of Ints -/
def aZ (f : Int → Int) : Nat → Int32 := fun k => zI (f (k : Int))
def uZ (f : Int → Int) (i v : Int) : Int → Int := fun j => if j = i then v else f j
theorem uZ_same (f : Int → Int) (i v : Int) : uZ f i v i = v := if_pos rfl
theorem uZ_ne (f : Int → Int) {i j : Int} (v : Int) (h : j ≠ i) : uZ f i v j = f j := if_neg h
theorem aZ_at {f : Int → Int} {i : Int} (h0 : 0 ≤ i) (h : i < 2147483648) : aZ f (zI i).toNatClampNeg = zI (f i) := by
  rw [zI_cl h0 h]
  show zI (f ((i.toNat : Nat) : Int)) = _
  rw [Int.toNat_of_nonneg h0]
theorem aZ_upd {f : Int → Int} {i v : Int} (h0 : 0 ≤ i) (h : i < 2147483648) : upd (aZ f) (zI i).toNatClampNeg (zI v) = aZ (uZ f i v) := by
  rw [zI_cl h0 h]
  funext j
  show (if j = i.toNat then zI v else zI (f j)) = zI (if (j : Int) = i then v else f j)
  by_cases hj : j = i.toNat
  · rw [if_pos hj, if_pos (by omega)]
  · rw [if_neg hj, if_neg (by omega)]
theorem cell_ext (cA : ClassId) (n : Nat) {f g : Nat → Int32} (h : ∀ j, j < n → f j = g j) : vp_cell cA (n, .inl f) = vp_cell cA (n, .inl g) := by
  show arrV cA n (fun j => Value.int (f j)) = arrV cA n (fun j => Value.int (g j))
  unfold arrV
  congr 1
  apply Array.ext
  · simp
  · intro i h1 h2
    simp at h1
    simp [h i h1]
theorem tn1 {i : Int} (h : 0 ≤ i) : (i + 1).toNat = i.toNat + 1 := by omega
theorem bit_lt {x : Int} (h : x < 12) : 2 ^ x.toNat < 4096 := Nat.pow_lt_pow_right (a := 2) (m := x.toNat) (n := 12) (by omega) (by omega)
theorem or_lt {a b : Nat} (ha : a < 4096) (hb : b < 4096) : a ||| b < 4096 := Nat.or_lt_two_pow (n := 12) ha hb
/-! THE WORLD -/
abbrev CX : Type := va_G × ClassId × ClassId × ClassId
abbrev kT (G : CX) : List (ClassId × FieldType) := [(G.2.1, .int), (G.2.2.1, .boolean), (G.2.2.2, .object "QuarterTurns$Lying")]
abbrev kK (G : CX) (U : State) : Prop := va_K G.1 vwCl (kT G) U
abbrev kP (G : CX) (ws : va_W) (H : Heap) : Prop := va_P G.1 vwCl ws H
def noA : Nat → Prop := fun _ => False
def wrA (ws : va_W) : Nat → Prop := fun q => ∃ (k : Nat) (e : va_E), ws[k]? = some (q, e)
def rdP (G : CX) (av : List Value) (ws : va_W) : Array Value → State → Prop := va_Pc av (fun U => kP G ws U.heap ∧ kK G U)
def wrP (G : CX) (av : List Value) (ws : va_W) : Array Value → State → Prop := va_Pc av (fun U => kP G ws U.heap ∧ kK G U ∧ va_D (fun _ => True) ws)
theorem rdP_blind (G : CX) (av : List Value) (ws : va_W) : FrameBlind (rdP G av ws) := fun a U g mk q => ⟨q.1, q.2.1, va_K.moved (u := U) (U := U.calling g mk a) (Vm.Alike.refl U.vm) q.2.2⟩
theorem wrP_blind (G : CX) (av : List Value) (ws : va_W) : FrameBlind (wrP G av ws) := fun a U g mk q => ⟨q.1, q.2.1, va_K.moved (u := U) (U := U.calling g mk a) (Vm.Alike.refl U.vm) q.2.2.1, q.2.2.2⟩
def rdQ (v : Int32) : Array Value → State → Outcome → State → Prop := va_Qi (fun (r : Int32) (_ : Unit) => r = v) (fun _ _ => True) noA
def wrQ {S : Type} (G : CX) (ws : va_W) (post : Int32 → S → Prop) (wf : S → va_W) : Array Value → State → Outcome → State → Prop := va_Qi post (fun u t => kP G (wf u) t.heap) (wrA ws)
def wrV {S : Type} (G : CX) (ws : va_W) (post : S → Prop) (wf : S → va_W) : Array Value → State → Outcome → State → Prop := va_Qv post (fun u t => kP G (wf u) t.heap) (wrA ws)
def puts : va_W → List Nat → va_W → va_W
  | W, i :: is, c :: cs => puts (W.set i c) is cs
  | W, _, _ => W
theorem puts_get : ∀ (is : List Nat) (cs W : va_W) (k : Nat) (q : Nat × va_E), is.length = cs.length → (puts W is cs)[k]? = some q → (∃ j : Nat, is[j]? = some k ∧ cs[j]? = some q) ∨ (k ∉ is ∧ W[k]? = some q)
  | [], cs, W, k, q, _, h => Or.inr ⟨List.not_mem_nil, by cases cs <;> exact h⟩
  | i :: is, [], W, k, q, hl, h => by simp at hl
  | i :: is, c :: cs, W, k, q, hl, h => by
    rcases puts_get is cs (W.set i c) k q (by simpa using hl) h with ⟨j, h1, h2⟩ | ⟨h1, h2⟩
    · exact Or.inl ⟨j + 1, by simpa using h1, by simpa using h2⟩
    · by_cases hk : k = i
      · subst hk
        left
        refine ⟨0, rfl, ?_⟩
        rw [List.getElem?_set] at h2
        simp at h2
        simp [h2.2]
      · right
        refine ⟨?_, ?_⟩
        · simp [hk, h1]
        · rw [List.getElem?_set_ne (Ne.symm hk)] at h2
          exact h2
theorem puts_addr : ∀ (is : List Nat) (wc cs W : va_W), is.map (fun i => (W.map Prod.fst)[i]?) = (cs.map Prod.fst).map some → (puts W is cs).map Prod.fst = W.map Prod.fst
  | [], wc, cs, W, _ => by cases cs <;> rfl
  | i :: is, wc, [], W, h => rfl
  | i :: is, wc, c :: cs, W, h => by
    simp only [List.map_cons, List.cons.injEq] at h
    obtain ⟨h1, h2⟩ := h
    have e : (W.set i c).map Prod.fst = W.map Prod.fst := by
      rw [List.map_set]
      apply List.ext_getElem?
      intro k
      rw [List.getElem?_set]
      split
      · rename_i hk
        subst hk
        split
        · exact h1.symm
        · rename_i hk2
          rw [List.getElem?_eq_none (by omega)]
      · rfl
    show (puts (W.set i c) is cs).map Prod.fst = _
    rw [puts_addr is wc cs (W.set i c) (by rw [e]; exact h2), e]
theorem va_D_addr {A : Nat → Prop} {W W' : va_W} (h : W'.map Prod.fst = W.map Prod.fst) (hD : va_D A W) : va_D A W' := by
  have key : ∀ (i : Nat) (p : Nat × va_E), W'[i]? = some p → ∃ p', W[i]? = some p' ∧ p'.1 = p.1 := by
    intro i p hp
    have h1 : (W.map Prod.fst)[i]? = some p.1 := by rw [← h, List.getElem?_map, hp]; rfl
    rw [List.getElem?_map] at h1
    cases hw : W[i]? with
    | none => rw [hw] at h1; cases h1
    | some p' => rw [hw] at h1; exact ⟨p', rfl, Option.some.inj h1⟩
  refine ⟨fun i j p q hp hq hpq => ?_, fun k q hq => ?_⟩
  · obtain ⟨p', h1, h2⟩ := key i p hp
    obtain ⟨q', h3, h4⟩ := key j q hq
    exact hD.1 i j p' q' h1 h3 (by rw [h2, h4]; exact hpq)
  · obtain ⟨q', h1, h2⟩ := key k q hq
    rw [← h2]
    exact hD.2 k q' h1
theorem addr_of {is : List Nat} {W wc : va_W} (hC : is.map (fun i => W[i]?) = wc.map some) : is.map (fun i => (W.map Prod.fst)[i]?) = (wc.map Prod.fst).map some := by
  have h : (is.map (fun i => W[i]?)).map (fun o => o.map Prod.fst) = (wc.map some).map (fun o => o.map Prod.fst) := by rw [hC]
  simp only [List.map_map] at h ⊢
  have e1 : is.map (fun i => (W.map Prod.fst)[i]?) = is.map ((fun o : Option (Nat × va_E) => o.map Prod.fst) ∘ fun i => W[i]?) := by
    apply List.map_congr_left
    intro i _
    simp [List.getElem?_map]
  rw [e1, h]
  apply List.map_congr_left
  intro q _
  rfl
/-- behind a call that writes: the callee's cells as they came back, all others as they were -/
theorem puts_P {A : Nat → Prop} {D : va_G} {cl : List vw_C} {W wc w1 : va_W} {H H1 : Heap} (hP : va_P D cl W H) (hD : va_D A W) (is : List Nat) (hC : is.map (fun i => W[i]?) = wc.map some) (ha : w1.map Prod.fst = wc.map Prod.fst) (hk : ∀ q : Nat, q < H.size → ¬ wrA wc q → H1[q]? = H[q]?) (hP1 : va_P D cl w1 H1) : va_P D cl (puts W is w1) H1 ∧ va_D A (puts W is w1) := by
  have hlen : is.length = w1.length := by
    have h1 := congrArg List.length hC
    have h2 := congrArg List.length ha
    simp at h1 h2
    omega
  refine ⟨fun k q hq => ?_, va_D_addr (puts_addr is wc w1 W (by rw [addr_of hC, ha])) hD⟩
  rcases puts_get is w1 W k q hlen hq with ⟨j, h1, h2⟩ | ⟨h1, h2⟩
  · exact hP1 j q h2
  · refine (hP k q h2).kept (hk q.1 (hP k q h2).lt ?_)
    rintro ⟨j, e, hj⟩
    have h3 : (is.map (fun i => W[i]?))[j]? = some (some (q.1, e)) := by rw [hC, List.getElem?_map, hj]; rfl
    rw [List.getElem?_map] at h3
    cases hi : is[j]? with
    | none => rw [hi] at h3; cases h3
    | some i =>
      rw [hi] at h3
      have h4 := hD.1 k i q (q.1, e) h2 (Option.some.inj h3) rfl
      subst h4
      exact h1 (List.mem_of_getElem? hi)
section ZL
variable {p : Program} {l : Launch} {e : Env} {R : Room} {s : State} {m : MethodId} {args : Array Value} {below : List Frame} {meth : Method} {c : Code} {H : Heap} {locs : List Loc} {cells slots : Nat} {Q : State → Prop}
variable {cc : ByteArray} {pc : Nat} {ls : Array Slot} {rest : List Value}
theorem z_iadd (hx : p.tables.exec = Jvm.exec) (hb : c.code = cc) {a b : Int} (hdg : decode cc pc = .ok (.iadd, 1)) (k : W p l e R s m args below meth c H locs cells slots Q (F0 m (pc + 1) ls (.int (zI (a + b)) :: rest))) : W p l e R s m args below meth c H locs cells slots Q (F0 m pc ls (.int (zI b) :: .int (zI a) :: rest)) := lv_iadd hx hb hdg (by rw [zI_add]; exact k)
theorem z_isub (hx : p.tables.exec = Jvm.exec) (hb : c.code = cc) {a b : Int} (hdg : decode cc pc = .ok (.isub, 1)) (k : W p l e R s m args below meth c H locs cells slots Q (F0 m (pc + 1) ls (.int (zI (a - b)) :: rest))) : W p l e R s m args below meth c H locs cells slots Q (F0 m pc ls (.int (zI b) :: .int (zI a) :: rest)) := lv_isub hx hb hdg (by rw [zI_sub]; exact k)
theorem z_imul (hx : p.tables.exec = Jvm.exec) (hb : c.code = cc) {a b : Int} (hdg : decode cc pc = .ok (.imul, 1)) (k : W p l e R s m args below meth c H locs cells slots Q (F0 m (pc + 1) ls (.int (zI (a * b)) :: rest))) : W p l e R s m args below meth c H locs cells slots Q (F0 m pc ls (.int (zI b) :: .int (zI a) :: rest)) := lv_imul hx hb hdg (by rw [zI_mul]; exact k)
theorem z_ineg (hx : p.tables.exec = Jvm.exec) (hb : c.code = cc) {a : Int} (hdg : decode cc pc = .ok (.ineg, 1)) (k : W p l e R s m args below meth c H locs cells slots Q (F0 m (pc + 1) ls (.int (zI (-a)) :: rest))) : W p l e R s m args below meth c H locs cells slots Q (F0 m pc ls (.int (zI a) :: rest)) := lv_ineg hx hb hdg (by rw [zI_neg]; exact k)
theorem z_idiv (hx : p.tables.exec = Jvm.exec) (hb : c.code = cc) {a b : Int} (h : 0 ≤ a ∧ a < 2147483648 ∧ 0 < b ∧ b < 2147483648) (hdg : decode cc pc = .ok (.idiv, 1)) (k : W p l e R s m args below meth c H locs cells slots Q (F0 m (pc + 1) ls (.int (zI (a / b)) :: rest))) : W p l e R s m args below meth c H locs cells slots Q (F0 m pc ls (.int (zI b) :: .int (zI a) :: rest)) := lv_idiv hx hb hdg (by rw [← zI_0, zI_eq ⟨by omega, by omega⟩ ⟨by omega, by omega⟩]; omega) (by rw [zI_div h.1 h.2.1 h.2.2.1 h.2.2.2]; exact k)
theorem z_irem (hx : p.tables.exec = Jvm.exec) (hb : c.code = cc) {a b : Int} (h : 0 ≤ a ∧ a < 2147483648 ∧ 0 < b ∧ b < 2147483648) (hdg : decode cc pc = .ok (.irem, 1)) (k : W p l e R s m args below meth c H locs cells slots Q (F0 m (pc + 1) ls (.int (zI (a % b)) :: rest))) : W p l e R s m args below meth c H locs cells slots Q (F0 m pc ls (.int (zI b) :: .int (zI a) :: rest)) := lv_irem hx hb hdg (by rw [← zI_0, zI_eq ⟨by omega, by omega⟩ ⟨by omega, by omega⟩]; omega) (by rw [zI_rem h.1 h.2.1 h.2.2.1 h.2.2.2]; exact k)
theorem z_ior (hx : p.tables.exec = Jvm.exec) (hb : c.code = cc) {a b : Nat} (hdg : decode cc pc = .ok (.ior, 1)) (k : W p l e R s m args below meth c H locs cells slots Q (F0 m (pc + 1) ls (.int (zI ((a ||| b : Nat) : Int)) :: rest))) : W p l e R s m args below meth c H locs cells slots Q (F0 m pc ls (.int (zI (b : Int)) :: .int (zI (a : Int)) :: rest)) := lv_ior hx hb hdg (by rw [zI_or]; exact k)
theorem z_iand (hx : p.tables.exec = Jvm.exec) (hb : c.code = cc) {a b : Nat} (hdg : decode cc pc = .ok (.iand, 1)) (k : W p l e R s m args below meth c H locs cells slots Q (F0 m (pc + 1) ls (.int (zI ((a &&& b : Nat) : Int)) :: rest))) : W p l e R s m args below meth c H locs cells slots Q (F0 m pc ls (.int (zI (b : Int)) :: .int (zI (a : Int)) :: rest)) := lv_iand hx hb hdg (by rw [zI_and]; exact k)
theorem z_shl1 (hx : p.tables.exec = Jvm.exec) (hb : c.code = cc) {k0 : Int} (h : 0 ≤ k0 ∧ k0 < 31) (hdg : decode cc pc = .ok (.ishl, 1)) (k : W p l e R s m args below meth c H locs cells slots Q (F0 m (pc + 1) ls (.int (zI ((2 ^ k0.toNat : Nat) : Int)) :: rest))) : W p l e R s m args below meth c H locs cells slots Q (F0 m pc ls (.int (zI k0) :: .int (zI 1) :: rest)) := lv_ishl hx hb hdg (by rw [zI_shl1 h.1 h.2]; exact k)
theorem z_ishr (hx : p.tables.exec = Jvm.exec) (hb : c.code = cc) {a : Nat} {k0 : Int} (ha : a < 2147483648) (h : 0 ≤ k0 ∧ k0 < 31) (hdg : decode cc pc = .ok (.ishr, 1)) (k : W p l e R s m args below meth c H locs cells slots Q (F0 m (pc + 1) ls (.int (zI ((a >>> k0.toNat : Nat) : Int)) :: rest))) : W p l e R s m args below meth c H locs cells slots Q (F0 m pc ls (.int (zI k0) :: .int (zI (a : Int)) :: rest)) := lv_ishr hx hb hdg (by rw [zI_shr ha h.1 h.2]; exact k)
theorem z_ishrZ (hx : p.tables.exec = Jvm.exec) (hb : c.code = cc) {a k0 : Int} (ha : 0 ≤ a ∧ a < 2147483648) (h : 0 ≤ k0 ∧ k0 < 31) (hdg : decode cc pc = .ok (.ishr, 1)) (k : W p l e R s m args below meth c H locs cells slots Q (F0 m (pc + 1) ls (.int (zI ((a.toNat >>> k0.toNat : Nat) : Int)) :: rest))) : W p l e R s m args below meth c H locs cells slots Q (F0 m pc ls (.int (zI k0) :: .int (zI a) :: rest)) := by
  obtain ⟨n, rfl⟩ := Int.eq_ofNat_of_zero_le ha.1
  exact z_ishr hx hb (by omega) h hdg k
theorem bit_ite (x k : Nat) : ((x >>> k &&& 1 : Nat) : Int) = if x.testBit k = true then 1 else 0 := by
  rw [Nat.testBit, Nat.and_comm 1 (x >>> k), Nat.and_one_is_mod]
  rcases Nat.mod_two_eq_zero_or_one (x >>> k) with h | h <;> simp [h]
theorem z_and1 (hx : p.tables.exec = Jvm.exec) (hb : c.code = cc) {a : Int} (ha : 0 ≤ a ∧ a < 2147483648) (hdg : decode cc pc = .ok (.iand, 1)) (k : W p l e R s m args below meth c H locs cells slots Q (F0 m (pc + 1) ls (.int (zI (a % 2)) :: rest))) : W p l e R s m args below meth c H locs cells slots Q (F0 m pc ls (.int (zI 1) :: .int (zI a) :: rest)) := by
  obtain ⟨n, rfl⟩ := Int.eq_ofNat_of_zero_le ha.1
  refine z_iand (a := n) (b := 1) hx hb hdg ?_
  rw [Nat.and_one_is_mod, Int.natCast_emod]
  exact k
theorem z_if_eq (hx : p.tables.exec = Jvm.exec) (hb : c.code = cc) {a : Int} (hr : -2147483648 ≤ a ∧ a < 2147483648) {off : Int} {tgt : Nat} (hdg : decode cc pc = .ok (.ifCond .eq off, 3)) (ht : (pc : Int) + off = (tgt : Int)) (kt : a = 0 → W p l e R s m args below meth c H locs cells slots Q (F0 m tgt ls (rest))) (kf : ¬ (a = 0) → W p l e R s m args below meth c H locs cells slots Q (F0 m (pc + 3) ls (rest))) : W p l e R s m args below meth c H locs cells slots Q (F0 m pc ls (.int (zI a) :: rest)) := lv_if_eq hx hb hdg ht (fun h => kt ((zI_eq hr ⟨by omega, by omega⟩).mp h)) (fun h => kf (fun h2 => h ((zI_eq hr ⟨by omega, by omega⟩).mpr h2)))
theorem z_icmp_eq (hx : p.tables.exec = Jvm.exec) (hb : c.code = cc) {a b : Int} (hr : (-2147483648 ≤ a ∧ a < 2147483648) ∧ (-2147483648 ≤ b ∧ b < 2147483648)) {off : Int} {tgt : Nat} (hdg : decode cc pc = .ok (.if_icmp .eq off, 3)) (ht : (pc : Int) + off = (tgt : Int)) (kt : a = b → W p l e R s m args below meth c H locs cells slots Q (F0 m tgt ls (rest))) (kf : ¬ (a = b) → W p l e R s m args below meth c H locs cells slots Q (F0 m (pc + 3) ls (rest))) : W p l e R s m args below meth c H locs cells slots Q (F0 m pc ls (.int (zI b) :: .int (zI a) :: rest)) := lv_icmp_eq hx hb hdg ht (fun h => kt ((zI_eq hr.1 hr.2).mp h)) (fun h => kf (fun h2 => h ((zI_eq hr.1 hr.2).mpr h2)))
theorem z_if_ne (hx : p.tables.exec = Jvm.exec) (hb : c.code = cc) {a : Int} (hr : -2147483648 ≤ a ∧ a < 2147483648) {off : Int} {tgt : Nat} (hdg : decode cc pc = .ok (.ifCond .ne off, 3)) (ht : (pc : Int) + off = (tgt : Int)) (kt : ¬ (a = 0) → W p l e R s m args below meth c H locs cells slots Q (F0 m tgt ls (rest))) (kf : a = 0 → W p l e R s m args below meth c H locs cells slots Q (F0 m (pc + 3) ls (rest))) : W p l e R s m args below meth c H locs cells slots Q (F0 m pc ls (.int (zI a) :: rest)) := lv_if_ne hx hb hdg ht (fun h => kt (fun h2 => h ((zI_eq hr ⟨by omega, by omega⟩).mpr h2))) (fun h => kf ((zI_eq hr ⟨by omega, by omega⟩).mp h))
theorem z_icmp_ne (hx : p.tables.exec = Jvm.exec) (hb : c.code = cc) {a b : Int} (hr : (-2147483648 ≤ a ∧ a < 2147483648) ∧ (-2147483648 ≤ b ∧ b < 2147483648)) {off : Int} {tgt : Nat} (hdg : decode cc pc = .ok (.if_icmp .ne off, 3)) (ht : (pc : Int) + off = (tgt : Int)) (kt : ¬ (a = b) → W p l e R s m args below meth c H locs cells slots Q (F0 m tgt ls (rest))) (kf : a = b → W p l e R s m args below meth c H locs cells slots Q (F0 m (pc + 3) ls (rest))) : W p l e R s m args below meth c H locs cells slots Q (F0 m pc ls (.int (zI b) :: .int (zI a) :: rest)) := lv_icmp_ne hx hb hdg ht (fun h => kt (fun h2 => h ((zI_eq hr.1 hr.2).mpr h2))) (fun h => kf ((zI_eq hr.1 hr.2).mp h))
theorem z_if_lt (hx : p.tables.exec = Jvm.exec) (hb : c.code = cc) {a : Int} (hr : -2147483648 ≤ a ∧ a < 2147483648) {off : Int} {tgt : Nat} (hdg : decode cc pc = .ok (.ifCond .lt off, 3)) (ht : (pc : Int) + off = (tgt : Int)) (kt : a < 0 → W p l e R s m args below meth c H locs cells slots Q (F0 m tgt ls (rest))) (kf : ¬ (a < 0) → W p l e R s m args below meth c H locs cells slots Q (F0 m (pc + 3) ls (rest))) : W p l e R s m args below meth c H locs cells slots Q (F0 m pc ls (.int (zI a) :: rest)) := lv_if_lt hx hb hdg ht (fun h => kt ((zI_lt hr ⟨by omega, by omega⟩).mp h)) (fun h => kf (fun h2 => h ((zI_lt hr ⟨by omega, by omega⟩).mpr h2)))
theorem z_icmp_lt (hx : p.tables.exec = Jvm.exec) (hb : c.code = cc) {a b : Int} (hr : (-2147483648 ≤ a ∧ a < 2147483648) ∧ (-2147483648 ≤ b ∧ b < 2147483648)) {off : Int} {tgt : Nat} (hdg : decode cc pc = .ok (.if_icmp .lt off, 3)) (ht : (pc : Int) + off = (tgt : Int)) (kt : a < b → W p l e R s m args below meth c H locs cells slots Q (F0 m tgt ls (rest))) (kf : ¬ (a < b) → W p l e R s m args below meth c H locs cells slots Q (F0 m (pc + 3) ls (rest))) : W p l e R s m args below meth c H locs cells slots Q (F0 m pc ls (.int (zI b) :: .int (zI a) :: rest)) := lv_icmp_lt hx hb hdg ht (fun h => kt ((zI_lt hr.1 hr.2).mp h)) (fun h => kf (fun h2 => h ((zI_lt hr.1 hr.2).mpr h2)))
theorem z_if_ge (hx : p.tables.exec = Jvm.exec) (hb : c.code = cc) {a : Int} (hr : -2147483648 ≤ a ∧ a < 2147483648) {off : Int} {tgt : Nat} (hdg : decode cc pc = .ok (.ifCond .ge off, 3)) (ht : (pc : Int) + off = (tgt : Int)) (kt : 0 ≤ a → W p l e R s m args below meth c H locs cells slots Q (F0 m tgt ls (rest))) (kf : ¬ (0 ≤ a) → W p l e R s m args below meth c H locs cells slots Q (F0 m (pc + 3) ls (rest))) : W p l e R s m args below meth c H locs cells slots Q (F0 m pc ls (.int (zI a) :: rest)) := lv_if_ge hx hb hdg ht (fun h => kt ((zI_le ⟨by omega, by omega⟩ hr).mp h)) (fun h => kf (fun h2 => h ((zI_le ⟨by omega, by omega⟩ hr).mpr h2)))
theorem z_icmp_ge (hx : p.tables.exec = Jvm.exec) (hb : c.code = cc) {a b : Int} (hr : (-2147483648 ≤ a ∧ a < 2147483648) ∧ (-2147483648 ≤ b ∧ b < 2147483648)) {off : Int} {tgt : Nat} (hdg : decode cc pc = .ok (.if_icmp .ge off, 3)) (ht : (pc : Int) + off = (tgt : Int)) (kt : b ≤ a → W p l e R s m args below meth c H locs cells slots Q (F0 m tgt ls (rest))) (kf : ¬ (b ≤ a) → W p l e R s m args below meth c H locs cells slots Q (F0 m (pc + 3) ls (rest))) : W p l e R s m args below meth c H locs cells slots Q (F0 m pc ls (.int (zI b) :: .int (zI a) :: rest)) := lv_icmp_ge hx hb hdg ht (fun h => kt ((zI_le hr.2 hr.1).mp h)) (fun h => kf (fun h2 => h ((zI_le hr.2 hr.1).mpr h2)))
theorem z_if_gt (hx : p.tables.exec = Jvm.exec) (hb : c.code = cc) {a : Int} (hr : -2147483648 ≤ a ∧ a < 2147483648) {off : Int} {tgt : Nat} (hdg : decode cc pc = .ok (.ifCond .gt off, 3)) (ht : (pc : Int) + off = (tgt : Int)) (kt : 0 < a → W p l e R s m args below meth c H locs cells slots Q (F0 m tgt ls (rest))) (kf : ¬ (0 < a) → W p l e R s m args below meth c H locs cells slots Q (F0 m (pc + 3) ls (rest))) : W p l e R s m args below meth c H locs cells slots Q (F0 m pc ls (.int (zI a) :: rest)) := lv_if_gt hx hb hdg ht (fun h => kt ((zI_lt ⟨by omega, by omega⟩ hr).mp h)) (fun h => kf (fun h2 => h ((zI_lt ⟨by omega, by omega⟩ hr).mpr h2)))
theorem z_icmp_gt (hx : p.tables.exec = Jvm.exec) (hb : c.code = cc) {a b : Int} (hr : (-2147483648 ≤ a ∧ a < 2147483648) ∧ (-2147483648 ≤ b ∧ b < 2147483648)) {off : Int} {tgt : Nat} (hdg : decode cc pc = .ok (.if_icmp .gt off, 3)) (ht : (pc : Int) + off = (tgt : Int)) (kt : b < a → W p l e R s m args below meth c H locs cells slots Q (F0 m tgt ls (rest))) (kf : ¬ (b < a) → W p l e R s m args below meth c H locs cells slots Q (F0 m (pc + 3) ls (rest))) : W p l e R s m args below meth c H locs cells slots Q (F0 m pc ls (.int (zI b) :: .int (zI a) :: rest)) := lv_icmp_gt hx hb hdg ht (fun h => kt ((zI_lt hr.2 hr.1).mp h)) (fun h => kf (fun h2 => h ((zI_lt hr.2 hr.1).mpr h2)))
theorem z_if_le (hx : p.tables.exec = Jvm.exec) (hb : c.code = cc) {a : Int} (hr : -2147483648 ≤ a ∧ a < 2147483648) {off : Int} {tgt : Nat} (hdg : decode cc pc = .ok (.ifCond .le off, 3)) (ht : (pc : Int) + off = (tgt : Int)) (kt : a ≤ 0 → W p l e R s m args below meth c H locs cells slots Q (F0 m tgt ls (rest))) (kf : ¬ (a ≤ 0) → W p l e R s m args below meth c H locs cells slots Q (F0 m (pc + 3) ls (rest))) : W p l e R s m args below meth c H locs cells slots Q (F0 m pc ls (.int (zI a) :: rest)) := lv_if_le hx hb hdg ht (fun h => kt ((zI_le hr ⟨by omega, by omega⟩).mp h)) (fun h => kf (fun h2 => h ((zI_le hr ⟨by omega, by omega⟩).mpr h2)))
theorem z_icmp_le (hx : p.tables.exec = Jvm.exec) (hb : c.code = cc) {a b : Int} (hr : (-2147483648 ≤ a ∧ a < 2147483648) ∧ (-2147483648 ≤ b ∧ b < 2147483648)) {off : Int} {tgt : Nat} (hdg : decode cc pc = .ok (.if_icmp .le off, 3)) (ht : (pc : Int) + off = (tgt : Int)) (kt : a ≤ b → W p l e R s m args below meth c H locs cells slots Q (F0 m tgt ls (rest))) (kf : ¬ (a ≤ b) → W p l e R s m args below meth c H locs cells slots Q (F0 m (pc + 3) ls (rest))) : W p l e R s m args below meth c H locs cells slots Q (F0 m pc ls (.int (zI b) :: .int (zI a) :: rest)) := lv_icmp_le hx hb hdg ht (fun h => kt ((zI_le hr.1 hr.2).mp h)) (fun h => kf (fun h2 => h ((zI_le hr.1 hr.2).mpr h2)))
theorem z_ifeq_b (hx : p.tables.exec = Jvm.exec) (hb : c.code = cc) {P : Prop} [Decidable P] {off : Int} {tgt : Nat} (hdg : decode cc pc = .ok (.ifCond .eq off, 3)) (ht : (pc : Int) + off = (tgt : Int)) (kt : ¬ P → W p l e R s m args below meth c H locs cells slots Q (F0 m tgt ls (rest))) (kf : P → W p l e R s m args below meth c H locs cells slots Q (F0 m (pc + 3) ls (rest))) : W p l e R s m args below meth c H locs cells slots Q (F0 m pc ls (.int (zI (if P then 1 else 0)) :: rest)) := by
  by_cases h : P
  · rw [if_pos h]
    exact lv_if_eq hx hb hdg ht (fun h2 => absurd h2 (by decide)) (fun _ => kf h)
  · rw [if_neg h]
    exact lv_if_eq hx hb hdg ht (fun _ => kt h) (fun h2 => absurd rfl h2)
theorem z_ifne_b (hx : p.tables.exec = Jvm.exec) (hb : c.code = cc) {P : Prop} [Decidable P] {off : Int} {tgt : Nat} (hdg : decode cc pc = .ok (.ifCond .ne off, 3)) (ht : (pc : Int) + off = (tgt : Int)) (kt : P → W p l e R s m args below meth c H locs cells slots Q (F0 m tgt ls (rest))) (kf : ¬ P → W p l e R s m args below meth c H locs cells slots Q (F0 m (pc + 3) ls (rest))) : W p l e R s m args below meth c H locs cells slots Q (F0 m pc ls (.int (zI (if P then 1 else 0)) :: rest)) := by
  by_cases h : P
  · rw [if_pos h]
    exact lv_if_ne hx hb hdg ht (fun _ => kt h) (fun h2 => absurd h2 (by decide))
  · rw [if_neg h]
    exact lv_if_ne hx hb hdg ht (fun h2 => absurd rfl h2) (fun _ => kf h)
theorem nb (P : Prop) [Decidable P] : narrow .boolean (.int (zI (if P then 1 else 0))) = .int (zI (if P then 1 else 0)) := by
  split <;> rfl
theorem fb (P : Prop) [Decidable P] : fits .boolean (.int (zI (if P then 1 else 0))) = true := by
  split <;> rfl
theorem z_mmin (hx : p.tables.exec = Jvm.exec) (hb : c.code = cc) (hml : c.maxLocals = ls.size) {own : String} {index : Nat} (hown : s.vm.findClass own = some m.cls) (hlink : (Cond.methodLink own index Lib.Math.min.name).before args s = true) (hstat : (Cond.static Lib.Math.min.name).before args s = true) (hini : (Cond.initialized "java/lang/Math").before args s = true) (hcode : (Cond.code Lib.Math.min.name Lib.Math.min.code 2 (some .int)).before args s = true) (hframes : 1 ≤ R.frames) (hlocals : (rest.map fun v => v.category).sum + 13 ≤ R.locals) (hc : cells ≤ R.cells) (hs : slots ≤ R.slots) {a b : Int} (hr : (-2147483648 ≤ a ∧ a < 2147483648) ∧ (-2147483648 ≤ b ∧ b < 2147483648)) (hdg : decode cc pc = .ok (.invokestatic index, 3)) (k : W p l e R s m args below meth c H locs cells slots Q (F0 m (pc + 3) ls (.int (zI (if b < a then b else a)) :: rest))) : W p l e R s m args below meth c H locs cells slots Q (F0 m pc ls (.int (zI b) :: .int (zI a) :: rest)) := va_mmin hx hb hml hown hlink hstat hini hcode hframes hlocals hc hs hdg (by
  have e : (if zI b < zI a then zI b else zI a) = zI (if b < a then b else a) := by
    by_cases h : b < a
    · rw [if_pos h, if_pos ((zI_lt hr.2 hr.1).mpr h)]
    · rw [if_neg h, if_neg (fun h2 => h ((zI_lt hr.2 hr.1).mp h2))]
  rw [e]
  exact k)
theorem z_mmax (hx : p.tables.exec = Jvm.exec) (hb : c.code = cc) (hml : c.maxLocals = ls.size) {own : String} {index : Nat} (hown : s.vm.findClass own = some m.cls) (hlink : (Cond.methodLink own index Lib.Math.max.name).before args s = true) (hstat : (Cond.static Lib.Math.max.name).before args s = true) (hini : (Cond.initialized "java/lang/Math").before args s = true) (hcode : (Cond.code Lib.Math.max.name Lib.Math.max.code 2 (some .int)).before args s = true) (hframes : 1 ≤ R.frames) (hlocals : (rest.map fun v => v.category).sum + 13 ≤ R.locals) (hc : cells ≤ R.cells) (hs : slots ≤ R.slots) {a b : Int} (hr : (-2147483648 ≤ a ∧ a < 2147483648) ∧ (-2147483648 ≤ b ∧ b < 2147483648)) (hdg : decode cc pc = .ok (.invokestatic index, 3)) (k : W p l e R s m args below meth c H locs cells slots Q (F0 m (pc + 3) ls (.int (zI (if a < b then b else a)) :: rest))) : W p l e R s m args below meth c H locs cells slots Q (F0 m pc ls (.int (zI b) :: .int (zI a) :: rest)) := va_mmax hx hb hml hown hlink hstat hini hcode hframes hlocals hc hs hdg (by
  have e : (if zI a < zI b then zI b else zI a) = zI (if a < b then b else a) := by
    by_cases h : a < b
    · rw [if_pos h, if_pos ((zI_lt hr.1 hr.2).mpr h)]
    · rw [if_neg h, if_neg (fun h2 => h ((zI_lt hr.1 hr.2).mp h2))]
  rw [e]
  exact k)
theorem z_tabOut (hx : p.tables.exec = Jvm.exec) (hb : c.code = cc) {a dflt lo hi : Int} {offs : Array Int} {len tgt : Nat} (hr : -2147483648 ≤ a ∧ a < 2147483648) (hdg : decode cc pc = .ok (.tableswitch dflt lo hi offs, len)) (h : a < lo ∨ hi < a) (ht : (pc : Int) + dflt = (tgt : Int)) (k : W p l e R s m args below meth c H locs cells slots Q (F0 m tgt ls (rest))) : W p l e R s m args below meth c H locs cells slots Q (F0 m pc ls (.int (zI a) :: rest)) := lv_tableOut hx hb hdg (by rw [zI_toInt hr]; exact h) ht k
theorem z_tabIn (hx : p.tables.exec = Jvm.exec) (hb : c.code = cc) {a dflt lo hi off : Int} {offs : Array Int} {len tgt k : Nat} (hr : -2147483648 ≤ a ∧ a < 2147483648) (hdg : decode cc pc = .ok (.tableswitch dflt lo hi offs, len)) (h1 : ¬ a < lo) (h2 : ¬ hi < a) (hk : a = lo + k) (ho : offs[k]? = some off) (ht : (pc : Int) + off = (tgt : Int)) (kk : W p l e R s m args below meth c H locs cells slots Q (F0 m tgt ls (rest))) : W p l e R s m args below meth c H locs cells slots Q (F0 m pc ls (.int (zI a) :: rest)) := lv_tableIn hx hb hdg (by rw [zI_toInt hr]; exact h1) (by rw [zI_toInt hr]; exact h2) (by rw [zI_toInt hr, show (a - lo).toNat = k by omega]; exact ho) ht kk
theorem z_lookup (hx : p.tables.exec = Jvm.exec) (hb : c.code = cc) {a dflt off : Int} {ps : Array (Int × Int)} {len tgt : Nat} (hr : -2147483648 ≤ a ∧ a < 2147483648) (hdg : decode cc pc = .ok (.lookupswitch dflt ps, len)) (hp : (ps.toList.zip (ps.toList.drop 1)).all (fun (a, next) => a.1 < next.1) = true) (ho : Op.lookupswitch.offset ps.toList dflt a = off) (ht : (pc : Int) + off = (tgt : Int)) (k : W p l e R s m args below meth c H locs cells slots Q (F0 m tgt ls (rest))) : W p l e R s m args below meth c H locs cells slots Q (F0 m pc ls (.int (zI a) :: rest)) := lv_lookup hx hb hdg hp (by rw [zI_toInt hr]; exact ho) ht k
theorem z_top {a b : Int} (h : a = b) (k : W p l e R s m args below meth c H locs cells slots Q (F0 m pc ls (.int (zI b) :: rest))) : W p l e R s m args below meth c H locs cells slots Q (F0 m pc ls (.int (zI a) :: rest)) := by
  rw [h]
  exact k
variable {G : CX} {ws : va_W} {A : Nat → Prop} {H0 : Heap} {a : Nat}
theorem z_iald (hx : p.tables.exec = Jvm.exec) (hb : c.code = cc) (hK : kK G s) (hP : kP G ws H) (q0 : Nat) {n : Nat} {f : Int → Int} (ha : ws[q0]? = some (a, .inl (G.2.1, n, .inl (aZ f)))) {i : Int} (hi : 0 ≤ i ∧ i < n ∧ n < 2147483648) (hdg : decode cc pc = .ok (.iaload, 1)) (k : W p l e R s m args below meth c H locs cells slots Q (F0 m (pc + 1) ls (.int (zI (f i)) :: rest))) : W p l e R s m args below meth c H locs cells slots Q (F0 m pc ls (.int (zI i) :: .ref a :: rest)) :=
  va_iald hx hb hK hP q0 0 ha rfl (zI_in hi.1 hi.2.1 hi.2.2) hdg (by rw [aZ_at hi.1 (by omega)]; exact k)
theorem z_zald (hx : p.tables.exec = Jvm.exec) (hb : c.code = cc) (hK : kK G s) (hP : kP G ws H) (q0 : Nat) {n : Nat} {f : Int → Int} (ha : ws[q0]? = some (a, .inl (G.2.2.1, n, .inl (aZ f)))) {i : Int} (hi : 0 ≤ i ∧ i < n ∧ n < 2147483648) (hdg : decode cc pc = .ok (.baload, 1)) (k : W p l e R s m args below meth c H locs cells slots Q (F0 m (pc + 1) ls (.int (zI (f i)) :: rest))) : W p l e R s m args below meth c H locs cells slots Q (F0 m pc ls (.int (zI i) :: .ref a :: rest)) :=
  va_zald hx hb hK hP q0 1 ha rfl (zI_in hi.1 hi.2.1 hi.2.2) hdg (by rw [aZ_at hi.1 (by omega)]; exact k)
theorem z_iast (hx : p.tables.exec = Jvm.exec) (hb : c.code = cc) (hK : kK G s) (hP : kP G ws H) (hD : va_D A ws) (hS : va_S A H0 H locs) (q0 : Nat) {n : Nat} {f : Int → Int} (ha : ws[q0]? = some (a, .inl (G.2.1, n, .inl (aZ f)))) {i v : Int} (hi : 0 ≤ i ∧ i < n ∧ n < 2147483648) (hdg : decode cc pc = .ok (.iastore, 1)) (k : ∀ (H : Heap) (locs : List Loc), kP G (ws.set q0 (a, .inl (G.2.1, n, .inl (aZ (uZ f i v))))) H → va_D A (ws.set q0 (a, .inl (G.2.1, n, .inl (aZ (uZ f i v))))) → va_S A H0 H locs → W p l e R s m args below meth c H locs cells slots Q (F0 m (pc + 1) ls (rest))) : W p l e R s m args below meth c H locs cells slots Q (F0 m pc ls (.int (zI v) :: .int (zI i) :: .ref a :: rest)) :=
  va_iast hx hb hK hP hD hS q0 0 ha rfl (zI_in hi.1 hi.2.1 hi.2.2) hdg (by rw [aZ_upd hi.1 (by omega)]; exact k)
theorem z_zast (hx : p.tables.exec = Jvm.exec) (hb : c.code = cc) (hK : kK G s) (hP : kP G ws H) (hD : va_D A ws) (hS : va_S A H0 H locs) (q0 : Nat) {n : Nat} {f : Int → Int} (ha : ws[q0]? = some (a, .inl (G.2.2.1, n, .inl (aZ f)))) {i v : Int} (hv : v = 0 ∨ v = 1) (hi : 0 ≤ i ∧ i < n ∧ n < 2147483648) (hdg : decode cc pc = .ok (.bastore, 1)) (k : ∀ (H : Heap) (locs : List Loc), kP G (ws.set q0 (a, .inl (G.2.2.1, n, .inl (aZ (uZ f i v))))) H → va_D A (ws.set q0 (a, .inl (G.2.2.1, n, .inl (aZ (uZ f i v))))) → va_S A H0 H locs → W p l e R s m args below meth c H locs cells slots Q (F0 m (pc + 1) ls (rest))) : W p l e R s m args below meth c H locs cells slots Q (F0 m pc ls (.int (zI v) :: .int (zI i) :: .ref a :: rest)) :=
  va_zast hx hb hK hP hD hS q0 1 ha rfl (zI_in hi.1 hi.2.1 hi.2.2) hdg (by
    have e : vp_nar .boolean (zI v) = zI v := by rcases hv with rfl | rfl <;> decide
    rw [e, aZ_upd hi.1 (by omega)]; exact k)
theorem set_ext {D : va_G} {cl : List vw_C} {cA : ClassId} {q n : Nat} {f g : Nat → Int32} (h : ∀ j, j < n → f j = g j) (hP : va_P D cl (ws.set q (a, .inl (cA, n, .inl f))) H) : va_P D cl (ws.set q (a, .inl (cA, n, .inl g))) H := by
  intro k x hk
  rw [List.getElem?_set] at hk
  split at hk
  · rename_i hkq
    split at hk
    · rename_i hlt
      cases hk
      have h1 := hP q _ (by rw [List.getElem?_set, if_pos rfl, if_pos hlt])
      show H[a]? = some (vp_cell cA (n, .inl g))
      rw [← cell_ext cA n h]
      exact h1
    · cases hk
  · rename_i hkq
    exact hP k x (by rw [List.getElem?_set, if_neg hkq]; exact hk)
theorem z_aald (hx : p.tables.exec = Jvm.exec) (hb : c.code = cc) (hK : kK G s) (hP : kP G ws H) (q0 : Nat) {n b : Nat} {f : Nat → Option Nat} (ha : ws[q0]? = some (a, .inl (G.2.2.2, n, .inr (.inr (.inr (.inr f)))))) {i : Int} (hi : 0 ≤ i ∧ i < n ∧ n < 2147483648) (hv : f i.toNat = some b) (hdg : decode cc pc = .ok (.aaload, 1)) (k : W p l e R s m args below meth c H locs cells slots Q (F0 m (pc + 1) ls (.ref b :: rest))) : W p l e R s m args below meth c H locs cells slots Q (F0 m pc ls (.int (zI i) :: .ref a :: rest)) :=
  va_aldq hx hb hK hP q0 2 ha rfl (zI_in hi.1 hi.2.1 hi.2.2) hdg (by rw [zI_cl hi.1 (by omega), hv]; exact k)
theorem one_ext {n : Nat} {f g : Int → Int} (h : ∀ j : Int, 0 ≤ j → j < n → f j = g j) (hP : kP G [(a, .inl (G.2.1, n, .inl (aZ f)))] H) : kP G [(a, .inl (G.2.1, n, .inl (aZ g)))] H :=
  set_ext (ws := [(a, .inl (G.2.1, n, .inl (aZ f)))]) (q := 0) (f := aZ f) (g := aZ g) (fun j hj => by show zI (f j) = zI (g j); rw [h j (by omega) (by omega)]) hP
theorem z_copy (hx : p.tables.exec = Jvm.exec) (hb : c.code = cc) (hml : c.maxLocals = ls.size) {own : String} {index : Nat} (hown : s.vm.findClass own = some m.cls) (hlink : (Cond.methodLink own index arraycopyName).before args s = true) (hnat : (Cond.native arraycopyName).before args s = true) (hstat : (Cond.static arraycopyName).before args s = true) (hini : (Cond.initialized "java/lang/System").before args s = true) (hK : kK G s) (hP : kP G ws H) (hD : va_D A ws) (hS : va_S A H0 H locs) (q0 q1 : Nat) {a0 n : Nat} {f g : Int → Int} (ha0 : ws[q0]? = some (a0, .inl (G.2.1, n, .inl (aZ f)))) (ha1 : ws[q1]? = some (a, .inl (G.2.1, n, .inl (aZ g)))) (hn : n < 2147483648) (hframes : 1 ≤ R.frames) (hlocals : (rest.map fun v => v.category).sum + (nativeFrameWords "java/lang/System" "arraycopy" 5 + 11) ≤ R.locals) (hdg : decode cc pc = .ok (.invokestatic index, 3)) (k : ∀ (H : Heap) (locs : List Loc), kP G (ws.set q1 (a, .inl (G.2.1, n, .inl (aZ f)))) H → va_D A (ws.set q1 (a, .inl (G.2.1, n, .inl (aZ f)))) → va_S A H0 H locs → W p l e R s m args below meth c H locs cells slots Q (F0 m (pc + 3) ls (rest))) : W p l e R s m args below meth c H locs cells slots Q (F0 m pc ls (.int (zI (n : Int)) :: .int (zI 0) :: .ref a :: .int (zI 0) :: .ref a0 :: rest)) := by
  have e0 : (zI 0).toNatClampNeg = 0 := rfl
  have en : (zI (n : Int)).toNatClampNeg = n := by rw [zI_cl (by omega) (by omega)]; rfl
  have hn0 : ¬ zI (n : Int) < 0 := by rw [← zI_0, zI_lt ⟨by omega, by omega⟩ ⟨by omega, by omega⟩]; omega
  refine va_copyi hx hb hml hown hlink hnat hstat hini hK hP hD hS q0 q1 0 0 ha0 ha1 rfl rfl rfl (by decide) (by decide) hn0 (by rw [e0, en]; omega) (by rw [e0, en]; omega) (fun i _ => rfl) hframes hlocals hdg (fun H1 locs1 hP1 hD1 hS1 => ?_)
  rw [e0, en] at hP1
  refine k H1 locs1 (set_ext (fun j hj => ?_) hP1) (va_D_addr ?_ hD1) hS1
  · show va_cpy (aZ f) (aZ g) 0 0 n j = aZ f j
    unfold va_cpy
    rw [if_pos ⟨by omega, by omega⟩]
    congr 1
    omega
  · rw [List.map_set, List.map_set]
end ZL
section ZC
variable {p : Program} {l : Launch} {e : Env} {R : Room} {s : State} {m : MethodId} {args : Array Value} {below : List Frame} {meth : Method} {c : Code} {H : Heap} {locs : List Loc} {cells slots : Nat} {Q : State → Prop}
variable {cc bytes : ByteArray} {pc nL maxL index n ci : Nat} {ls : Array Slot} {rest st0 As : List Value} {own C : String} {y : MethodName} {ret : Option FieldType} {Ts wsc : List Cond} {rm : Room}
variable {G : CX} {wW wc : va_W} {A0 : Nat → Prop} {H0 : Heap} {b : Nat} {fs : List Value} {v : Int32}
/-- a call of a reader -/
theorem z_cV (S : CallFix p m c cc nL s args Ts own) (hM : Met l y wsc rm (rdP G (.ref b :: As) wc) (rdQ v) 0 0 noA) (cw : CallW R s args own C index y bytes maxL ret wsc rm 0 0 n) (hK : kK G s) (hP : kP G wW H) (hS : va_S A0 H0 H locs) (is : List Nat) (hC : is.filterMap (fun i => wW[i]?) = wc) (hrecv : wc[0]? = some (b, .inr (ci, fs))) {q : vw_C} (hci : vwCl[ci]? = some q) (hq : q.1 = C) (hn : As.length = n) (hsz : ls.size = nL) (hst : st0 = As.reverse ++ .ref b :: rest) (hroom : (rest.map fun v => v.category).sum ≤ 8) (hdg : decode cc pc = .ok (.invokevirtual index, 3)) (hf : cells ≤ R.cells ∧ slots ≤ R.slots)
    (kk : ∀ (H : Heap) (locs : List Loc), kP G wW H → va_S A0 H0 H locs → W p l e R s m args below meth c H locs cells slots Q (F0 m (pc + 3) ls (.int v :: rest))) : W p l e R s m args below meth c H locs cells slots Q (F0 m pc ls st0) := by
  have hPc := hP.sub is hC
  refine va_calli (A1 := noA) (va_runV S hM cw ⟨rdP_blind _ _ _, by rw [← hq]; exact va_recv hK hPc hci hrecv, fun U hU hW => ⟨rfl, by rw [hU]; exact hPc, va_K.moved hW.alike hK⟩⟩ rfl hn hsz hst (lv_room hroom) hdg hf) hS (fun q _ h => h.elim) (fun q h => h.elim) (fun r u t H1 locs1 ht hvm hw _ hz1 hk1 hS1 => ?_)
  subst hw
  exact kk H1 locs1 (hP.kept (fun k q hk => hk1 q.1 ((hP k q hk).lt) (fun h => h))) hS1
theorem z_cS (S : CallFix p m c cc nL s args Ts own) (hM : Met l y wsc rm (rdP G As wc) (rdQ v) 0 0 noA) (cw : CallB R s args own index y bytes maxL ret wsc rm 0 0 n ∧ (Cond.static y).before args s = true) (hK : kK G s) (hP : kP G wW H) (hS : va_S A0 H0 H locs) (is : List Nat) (hC : is.filterMap (fun i => wW[i]?) = wc) (hn : As.length = n) (hsz : ls.size = nL) (hst : st0 = As.reverse ++ rest) (hroom : (rest.map fun v => v.category).sum ≤ 8) (hdg : decode cc pc = .ok (.invokestatic index, 3)) (hf : cells ≤ R.cells ∧ slots ≤ R.slots)
    (kk : ∀ (H : Heap) (locs : List Loc), kP G wW H → va_S A0 H0 H locs → W p l e R s m args below meth c H locs cells slots Q (F0 m (pc + 3) ls (.int v :: rest))) : W p l e R s m args below meth c H locs cells slots Q (F0 m pc ls st0) := by
  have hPc := hP.sub is hC
  refine va_calli (A1 := noA) (va_runS S hM cw ⟨rdP_blind _ _ _, fun U hU hW => ⟨rfl, by rw [hU]; exact hPc, va_K.moved hW.alike hK⟩⟩ rfl hn hsz hst (lv_room hroom) hdg hf) hS (fun q _ h => h.elim) (fun q h => h.elim) (fun r u t H1 locs1 ht hvm hw _ hz1 hk1 hS1 => ?_)
  subst hw
  exact kk H1 locs1 (hP.kept (fun k q hk => hk1 q.1 ((hP k q hk).lt) (fun h => h))) hS1
theorem wrA_of {is : List Nat} (hD : va_D A0 wW) (hC : is.map (fun i => wW[i]?) = wc.map some) : ∀ q, wrA wc q → A0 q := by
  rintro q ⟨k, e, h⟩
  have h1 : (is.map (fun i => wW[i]?))[k]? = some (some (q, e)) := by rw [hC, List.getElem?_map, h]; rfl
  rw [List.getElem?_map] at h1
  cases hi : is[k]? with
  | none => rw [hi] at h1; cases h1
  | some i => rw [hi] at h1; exact hD.2 i (q, e) (Option.some.inj h1)
theorem sub_of {D : va_G} {cl : List vw_C} {is : List Nat} (hP : va_P D cl wW H) (hC : is.map (fun i => wW[i]?) = wc.map some) : va_P D cl wc H := by
  intro k q hk
  have h1 : (is.map (fun i => wW[i]?))[k]? = some (some q) := by rw [hC, List.getElem?_map, hk]; rfl
  rw [List.getElem?_map] at h1
  cases hi : is[k]? with
  | none => rw [hi] at h1; cases h1
  | some i => rw [hi] at h1; exact hP i q (Option.some.inj h1)
/-- a call of a writer -/
theorem z_wV {S0 : Type} {post : Int32 → S0 → Prop} {wf : S0 → va_W} (S : CallFix p m c cc nL s args Ts own) (hM : Met l y wsc rm (wrP G (.ref b :: As) wc) (wrQ G wc post wf) 0 0 (wrA wc)) (cw : CallW R s args own C index y bytes maxL ret wsc rm 0 0 n) (hK : kK G s) (hP : kP G wW H) (hD : va_D A0 wW) (hS : va_S A0 H0 H locs) (is : List Nat) (hnd : va_nd is = true) (hC : is.map (fun i => wW[i]?) = wc.map some) (hrecv : wc[0]? = some (b, .inr (ci, fs))) {q : vw_C} (hci : vwCl[ci]? = some q) (hq : q.1 = C) (hadr : ∀ u, (wf u).map Prod.fst = wc.map Prod.fst) (hn : As.length = n) (hsz : ls.size = nL) (hst : st0 = As.reverse ++ .ref b :: rest) (hroom : (rest.map fun v => v.category).sum ≤ 8) (hdg : decode cc pc = .ok (.invokevirtual index, 3)) (hf : cells ≤ R.cells ∧ slots ≤ R.slots)
    (kk : ∀ (r : Int32) (u : S0) (H : Heap) (locs : List Loc), post r u → kP G (puts wW is (wf u)) H → va_D A0 (puts wW is (wf u)) → va_S A0 H0 H locs → W p l e R s m args below meth c H locs cells slots Q (F0 m (pc + 3) ls (.int r :: rest))) : W p l e R s m args below meth c H locs cells slots Q (F0 m pc ls st0) := by
  have hPc := sub_of hP hC
  have hDc := hD.sub is hnd hC
  have hF := wrA_of hD hC
  refine va_calli (A1 := wrA wc) (va_runV S hM cw ⟨wrP_blind _ _ _, by rw [← hq]; exact va_recv hK hPc hci hrecv, fun U hU hW => ⟨rfl, by rw [hU]; exact hPc, va_K.moved hW.alike hK, hDc.weaken (fun _ _ _ _ => trivial)⟩⟩ rfl hn hsz hst (lv_room hroom) hdg hf) hS (fun q _ h => hF q h) (fun q h => hF q h) (fun r u t H1 locs1 ht hvm hw hB hz1 hk1 hS1 => ?_)
  rw [ht] at hB
  obtain ⟨h1, h2⟩ := puts_P hP hD is hC (hadr u) hk1 hB
  exact kk r u H1 locs1 hw h1 h2 hS1
theorem z_wVv {S0 : Type} {post : S0 → Prop} {wf : S0 → va_W} (S : CallFix p m c cc nL s args Ts own) (hM : Met l y wsc rm (wrP G (.ref b :: As) wc) (wrV G wc post wf) 0 0 (wrA wc)) (cw : CallW R s args own C index y bytes maxL ret wsc rm 0 0 n) (hK : kK G s) (hP : kP G wW H) (hD : va_D A0 wW) (hS : va_S A0 H0 H locs) (is : List Nat) (hnd : va_nd is = true) (hC : is.map (fun i => wW[i]?) = wc.map some) (hrecv : wc[0]? = some (b, .inr (ci, fs))) {q : vw_C} (hci : vwCl[ci]? = some q) (hq : q.1 = C) (hadr : ∀ u, (wf u).map Prod.fst = wc.map Prod.fst) (hn : As.length = n) (hsz : ls.size = nL) (hst : st0 = As.reverse ++ .ref b :: rest) (hroom : (rest.map fun v => v.category).sum ≤ 8) (hdg : decode cc pc = .ok (.invokevirtual index, 3)) (hf : cells ≤ R.cells ∧ slots ≤ R.slots)
    (kk : ∀ (u : S0) (H : Heap) (locs : List Loc), post u → kP G (puts wW is (wf u)) H → va_D A0 (puts wW is (wf u)) → va_S A0 H0 H locs → W p l e R s m args below meth c H locs cells slots Q (F0 m (pc + 3) ls rest)) : W p l e R s m args below meth c H locs cells slots Q (F0 m pc ls st0) := by
  have hPc := sub_of hP hC
  have hDc := hD.sub is hnd hC
  have hF := wrA_of hD hC
  refine va_callv (A1 := wrA wc) (va_runV S hM cw ⟨wrP_blind _ _ _, by rw [← hq]; exact va_recv hK hPc hci hrecv, fun U hU hW => ⟨rfl, by rw [hU]; exact hPc, va_K.moved hW.alike hK, hDc.weaken (fun _ _ _ _ => trivial)⟩⟩ rfl hn hsz hst (lv_room hroom) hdg hf) hS (fun q _ h => hF q h) (fun q h => hF q h) (fun u t H1 locs1 ht hvm hw hB hz1 hk1 hS1 => ?_)
  rw [ht] at hB
  obtain ⟨h1, h2⟩ := puts_P hP hD is hC (hadr u) hk1 hB
  exact kk u H1 locs1 hw h1 h2 hS1
theorem z_wSv {S0 : Type} {post : S0 → Prop} {wf : S0 → va_W} (S : CallFix p m c cc nL s args Ts own) (hM : Met l y wsc rm (wrP G As wc) (wrV G wc post wf) 0 0 (wrA wc)) (cw : CallB R s args own index y bytes maxL ret wsc rm 0 0 n ∧ (Cond.static y).before args s = true) (hK : kK G s) (hP : kP G wW H) (hD : va_D A0 wW) (hS : va_S A0 H0 H locs) (is : List Nat) (hnd : va_nd is = true) (hC : is.map (fun i => wW[i]?) = wc.map some) (hadr : ∀ u, (wf u).map Prod.fst = wc.map Prod.fst) (hn : As.length = n) (hsz : ls.size = nL) (hst : st0 = As.reverse ++ rest) (hroom : (rest.map fun v => v.category).sum ≤ 8) (hdg : decode cc pc = .ok (.invokestatic index, 3)) (hf : cells ≤ R.cells ∧ slots ≤ R.slots)
    (kk : ∀ (u : S0) (H : Heap) (locs : List Loc), post u → kP G (puts wW is (wf u)) H → va_D A0 (puts wW is (wf u)) → va_S A0 H0 H locs → W p l e R s m args below meth c H locs cells slots Q (F0 m (pc + 3) ls rest)) : W p l e R s m args below meth c H locs cells slots Q (F0 m pc ls st0) := by
  have hPc := sub_of hP hC
  have hDc := hD.sub is hnd hC
  have hF := wrA_of hD hC
  refine va_callv (A1 := wrA wc) (va_runS S hM cw ⟨wrP_blind _ _ _, fun U hU hW => ⟨rfl, by rw [hU]; exact hPc, va_K.moved hW.alike hK, hDc.weaken (fun _ _ _ _ => trivial)⟩⟩ rfl hn hsz hst (lv_room hroom) hdg hf) hS (fun q _ h => hF q h) (fun q h => hF q h) (fun u t H1 locs1 ht hvm hw hB hz1 hk1 hS1 => ?_)
  rw [ht] at hB
  obtain ⟨h1, h2⟩ := puts_P hP hD is hC (hadr u) hk1 hB
  exact kk u H1 locs1 hw h1 h2 hS1
end ZC
/-! CONTRACTS: a reader (nothing changes, one answer), a writer (cells of its own change, none comes) -/
theorem rd_ofW {l : Launch} {y : MethodName} {ws ws' : List Cond} {rm : Room} {G : CX} {av : List Value} {wc : va_W} {v : Int32} {cc : ByteArray} {maxL : Nat} {ty : FieldType} (hy : plainName y.cls = true) (hw : ws = Cond.code y cc maxL (some ty) :: ws') (hlen : (lg_sl av).length ≤ maxL) (hnv : narrow ty (.int v) = .int v)
    (body : ∀ (p : Program) (e : Env) (s : State) (m : MethodId) (below : List Frame) (meth : Method) (c : Code) (Q : State → Prop) (A : Nat → Prop), p.tables.exec = Jvm.exec → c.code = cc → c.maxLocals = maxL → s.vm.findClass y.cls = some m.cls → (∀ w ∈ ws, w.before av.toArray s = true) → kK G s →
      (∀ (H : Heap) (locs : List Loc) (ls : Array Slot) (pc : Nat) (r : Int32), r = v → va_S A s.heap H locs → decode cc pc = .ok (.ireturn, 1) → W p l e rm s m av.toArray below meth c H locs 0 0 Q (F0 m pc ls [.int r])) →
      ∀ (H : Heap) (locs : List Loc), kP G wc H → va_S A s.heap H locs → ∀ ls : Array Slot, lv_has ls maxL (lv_args 0 av) → W p l e rm s m av.toArray below meth c H locs 0 0 Q (F0 m 0 ls [])) : Met l y ws rm (rdP G av wc) (rdQ v) 0 0 noA := by
  refine Met.ofW (cc := cc) (maxL := maxL) (ret := some ty) hy hw ?_
  intro p e s m args below meth c s₁ B hml hv
  obtain ⟨rfl, hP, hK⟩ := hv
  have hlocks := B.notSynchronized
  have hl := lv_entry av (n := maxL) hlen
  rw [lg_entry_eq]
  refine body p e s m below meth c _ noA B.exec B.bytes hml (findClass_of_methodNamed B.named) (atoms_spec (ws := ws) B.pre) hK ?_ _ _ hP va_S.rf _ hl
  intro H locs ls pc r hrv hS hdg
  subst hrv
  exact W.zret (ty := ty) B.exec B.bytes B.returns hnv (fun t ht hW => ⟨⟨_, (), rfl, rfl, trivial⟩, hS.F ht⟩) hS.2.2 hdg
theorem wr_ofW {l : Launch} {y : MethodName} {ws ws' : List Cond} {rm : Room} {G : CX} {av : List Value} {wc : va_W} {S0 : Type} {post : Int32 → S0 → Prop} {wf : S0 → va_W} {cc : ByteArray} {maxL : Nat} {ty : FieldType} (hy : plainName y.cls = true) (hw : ws = Cond.code y cc maxL (some ty) :: ws') (hlen : (lg_sl av).length ≤ maxL)
    (body : ∀ (p : Program) (e : Env) (s : State) (m : MethodId) (below : List Frame) (meth : Method) (c : Code) (Q : State → Prop) (A : Nat → Prop), p.tables.exec = Jvm.exec → c.code = cc → c.maxLocals = maxL → s.vm.findClass y.cls = some m.cls → (∀ w ∈ ws, w.before av.toArray s = true) → kK G s →
      (∀ (H : Heap) (locs : List Loc) (ls : Array Slot) (pc : Nat) (r : Int32) (u : S0), narrow ty (.int r) = .int r → post r u → kP G (wf u) H → va_S A s.heap H locs → decode cc pc = .ok (.ireturn, 1) → W p l e rm s m av.toArray below meth c H locs 0 0 Q (F0 m pc ls [.int r])) →
      ∀ (H : Heap) (locs : List Loc), kP G wc H → va_D A wc → va_S A s.heap H locs → ∀ ls : Array Slot, lv_has ls maxL (lv_args 0 av) → W p l e rm s m av.toArray below meth c H locs 0 0 Q (F0 m 0 ls [])) : Met l y ws rm (wrP G av wc) (wrQ G wc post wf) 0 0 (wrA wc) := by
  refine Met.ofW (cc := cc) (maxL := maxL) (ret := some ty) hy hw ?_
  intro p e s m args below meth c s₁ B hml hv
  obtain ⟨rfl, hP, hK, hD⟩ := hv
  have hlocks := B.notSynchronized
  have hl := lv_entry av (n := maxL) hlen
  rw [lg_entry_eq]
  refine body p e s m below meth c _ (wrA wc) B.exec B.bytes hml (findClass_of_methodNamed B.named) (atoms_spec (ws := ws) B.pre) hK ?_ _ _ hP ⟨hD.1, fun k q hk => ⟨k, q.2, hk⟩⟩ va_S.rf _ hl
  intro H locs ls pc r u hn hpost hP1 hS hdg
  exact W.zret (ty := ty) B.exec B.bytes B.returns hn (fun t ht hW => ⟨⟨_, u, rfl, hpost, by show kP G (wf u) t.heap; rw [ht]; exact hP1⟩, hS.F ht⟩) hS.2.2 hdg
theorem wv_ofW {l : Launch} {y : MethodName} {ws ws' : List Cond} {rm : Room} {G : CX} {av : List Value} {wc : va_W} {S0 : Type} {post : S0 → Prop} {wf : S0 → va_W} {cc : ByteArray} {maxL : Nat} (hy : plainName y.cls = true) (hw : ws = Cond.code y cc maxL none :: ws') (hlen : (lg_sl av).length ≤ maxL)
    (body : ∀ (p : Program) (e : Env) (s : State) (m : MethodId) (below : List Frame) (meth : Method) (c : Code) (Q : State → Prop) (A : Nat → Prop), p.tables.exec = Jvm.exec → c.code = cc → c.maxLocals = maxL → s.vm.findClass y.cls = some m.cls → (∀ w ∈ ws, w.before av.toArray s = true) → kK G s →
      (∀ (H : Heap) (locs : List Loc) (ls : Array Slot) (pc : Nat) (u : S0), post u → kP G (wf u) H → va_S A s.heap H locs → decode cc pc = .ok (.return_, 1) → W p l e rm s m av.toArray below meth c H locs 0 0 Q (F0 m pc ls [])) →
      ∀ (H : Heap) (locs : List Loc), kP G wc H → va_D A wc → va_S A s.heap H locs → ∀ ls : Array Slot, lv_has ls maxL (lv_args 0 av) → W p l e rm s m av.toArray below meth c H locs 0 0 Q (F0 m 0 ls [])) : Met l y ws rm (wrP G av wc) (wrV G wc post wf) 0 0 (wrA wc) := by
  refine Met.ofW (cc := cc) (maxL := maxL) (ret := none) hy hw ?_
  intro p e s m args below meth c s₁ B hml hv
  obtain ⟨rfl, hP, hK, hD⟩ := hv
  have hlocks := B.notSynchronized
  have hl := lv_entry av (n := maxL) hlen
  rw [lg_entry_eq]
  refine body p e s m below meth c _ (wrA wc) B.exec B.bytes hml (findClass_of_methodNamed B.named) (atoms_spec (ws := ws) B.pre) hK ?_ _ _ hP ⟨hD.1, fun k q hk => ⟨k, q.2, hk⟩⟩ va_S.rf _ hl
  intro H locs ls pc u hpost hP1 hS hdg
  exact W.vret B.exec B.bytes B.returns (fun t ht hW => ⟨⟨u, rfl, hpost, by show kP G (wf u) t.heap; rw [ht]; exact hP1⟩, hS.F ht⟩) hS.2.2 hdg
