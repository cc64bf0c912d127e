
/-! WHAT MAKERS WANT OF THE TABLES BESIDE THE WORDS -/
def XT (U : State) : Prop := va_AO RX2 U ∧ va_Nw (.methodLinkNest RX8 9 yX6_init RX8) U ∧ va_Nw (.methodLinkNest RX8 34 yX2_init RX8) U ∧ va_Nw (.methodLinkNest RX3 17 yX2_init RX8) U ∧ va_Nw (.methodLinkNest RX8 66 yX1_init RX8) U
theorem XT_warm {s U : State} (hW : s.WarmedH U.vm) (h : XT s) : XT U := ⟨h.1.moved hW.alike, h.2.1.warmM hW, h.2.2.1.warmM hW, h.2.2.2.1.warmM hW, h.2.2.2.2.warmM hW⟩
theorem XT_same {s U : State} (hv : s.vm = U.vm) (h : XT s) : XT U := ⟨h.1.moved (by rw [hv]; exact Vm.Alike.refl _), h.2.1.same rfl hv, h.2.2.1.same rfl hv, h.2.2.2.1.same rfl hv, h.2.2.2.2.same rfl hv⟩
def mkP (G : CX) (av : List Value) (ws : va_W) (sz : Nat) : Array Value → State → Prop := va_Pc av (fun U => U.heap.size = sz ∧ kP G ws U.heap ∧ kK G U ∧ va_D (fun _ => True) ws ∧ XT U)
def mkV {S : Type} (G : CX) (ws : va_W) (sz : Nat) (wf : S → va_W) : Array Value → State → Outcome → State → Prop := va_Qv (fun _ : S => True) (fun u t => kP G (wf u) t.heap ∧ va_D (va_A ws sz) (wf u)) (va_A ws sz)
theorem mkP_blind (G : CX) (av : List Value) (ws : va_W) (sz : Nat) : FrameBlind (mkP G av ws sz) := fun a U g mk q => ⟨q.1, q.2.1, q.2.2.1, va_K.moved (u := U) (U := U.calling g mk a) (Vm.Alike.refl U.vm) q.2.2.2.1, q.2.2.2.2.1, XT_same rfl q.2.2.2.2.2⟩
theorem mk_ofW {l : Launch} {y : MethodName} {ws ws' : List Cond} {rm : Room} {G : CX} {av : List Value} {wc : va_W} {sz mc ms : Nat} {S0 : Type} {wf : S0 → va_W} {cc : ByteArray} {maxL : Nat} (hy : plainName y.cls = true) (hyn : y.name = "<init>") (hw : ws = Cond.code y cc maxL none :: ws') (hlen : (lg_sl av).length ≤ maxL)
    (body : ∀ (p : Program) (e : Env) (s : State) (m : MethodId) (below : List Frame) (meth : Method) (c : Code) (Q : State → Prop) (A : Nat → Prop), p.tables.exec = Jvm.exec → c.code = cc → c.maxLocals = maxL → s.vm.findClass y.cls = some m.cls → (∀ w ∈ ws, w.before av.toArray s = true) → meth.name = "<init>" → kK G s → XT s → (∀ q : Nat, s.heap.size ≤ q → A q) →
      (∀ (H : Heap) (locs : List Loc) (ls : Array Slot) (pc : Nat) (u : S0), kP G (wf u) H → va_D A (wf u) → va_S A s.heap H locs → decode cc pc = .ok (.return_, 1) → W p l e rm s m av.toArray below meth c H locs mc ms Q (F0 m pc ls [])) →
      ∀ (H : Heap) (locs : List Loc), kP G wc H → va_D A wc → va_S A s.heap H locs → ∀ ls : Array Slot, lv_has ls maxL (lv_args 0 av) → W p l e rm s m av.toArray below meth c H locs 0 0 Q (F0 m 0 ls [])) : Met l y ws rm (mkP G av wc sz) (mkV G wc sz wf) mc ms (va_A wc sz) := by
  refine Met.ofW (cc := cc) (maxL := maxL) (ret := none) hy hw ?_
  intro p e s m args below meth c s₁ B hml hv
  obtain ⟨rfl, hsz, hP, hK, hD, hT⟩ := hv
  have hlocks := B.notSynchronized
  have hr := B.returns
  have hin : meth.name = "<init>" := (name_of_methodNamed B.named B.method).1.trans hyn
  have hl := lv_entry av (n := maxL) hlen
  rw [lg_entry_eq]
  subst hsz
  refine body p e s m below meth c _ (va_A wc s.heap.size) B.exec B.bytes hml (findClass_of_methodNamed B.named) (atoms_spec (ws := ws) B.pre) hin hK hT (fun q h => Or.inr h) ?_ _ _ hP hD.self va_S.rf _ hl
  intro H locs ls pc u hP1 hD1 hS hdg
  exact W.vret B.exec B.bytes hr (fun t ht hW => ⟨⟨u, rfl, trivial, by rw [ht]; exact hP1, hD1⟩, hS.F ht⟩) hS.2.2 hdg
section ZM
variable {p : Program} {l : Launch} {e : Env} {R : Room} {s : State} {m : MethodId} {args : Array Value} {below : List Frame} {meth : Method} {c : Code} {H : Heap} {locs : List Loc} {cells slots : Nat} {Q : State → Prop}
variable {cc bytes : ByteArray} {pc nL maxL index n ci mc ms : Nat} {ls : Array Slot} {rest st0 As : List Value} {own host C : String} {y : MethodName} {ret : Option FieldType} {Ts wsc : List Cond} {rm : Room}
variable {G : CX} {wW wc wr : va_W} {A0 : Nat → Prop} {H0 : Heap} {b : Nat} {fs : List Value}
theorem z_mkI {S0 : Type} {wf : S0 → va_W} (S : CallFix p m c cc nL s args Ts own) (hM : Met l y wsc rm (mkP G (.ref b :: As) wc H.size) (mkV G wc H.size wf) mc ms (va_A wc H.size)) (cw : CallB R s args own index y bytes maxL none wsc rm mc ms n ∧ y.name = "<init>" ∧ (Cond.instanceMethod y).before args s = true) (hK : kK G s) (hT : XT s) (hP : kP G wW H) (hD : va_D A0 wW) (hS : va_S A0 H0 H locs) (hA : ∀ q, H0.size ≤ q → A0 q) (isC isR : List Nat) (hC : isC.map (fun i => wW[i]?) = wc.map some) (hR : isR.map (fun i => wW[i]?) = wr.map some) (hndC : va_nd isC = true) (hnd : va_nd isR = true) (hdis : ∀ i ∈ isR, i ∉ isC) (hn : As.length = n) (hsz : ls.size = nL) (hst : st0 = As.reverse ++ .ref b :: rest) (hroom : (rest.map fun v => v.category).sum ≤ 8) (hdg : decode cc pc = .ok (.invokespecial index, 3)) (hf : cells + mc ≤ R.cells ∧ slots + ms ≤ R.slots)
    (kk : ∀ (u : S0) (H1 : Heap) (locs1 : List Loc), kP G (wr ++ wf u) H1 → va_D A0 (wr ++ wf u) → va_S A0 H0 H1 locs1 → W p l e R s m args below meth c H1 locs1 (cells + mc) (slots + ms) Q (F0 m (pc + 3) ls rest)) : W p l e R s m args below meth c H locs cells slots Q (F0 m pc ls st0) := by
  have hPc := sub_of hP hC
  have hDc := hD.sub isC hndC hC
  have hF := va_free hD hS hA isC hC
  refine va_callv (A1 := va_A wc H.size) (va_runI S hM cw ⟨mkP_blind _ _ _ _, fun U hU hW => ⟨rfl, by rw [hU], by rw [hU]; exact hPc, va_K.moved hW.alike hK, hDc.weaken (fun _ _ _ _ => trivial), XT_warm hW hT⟩⟩ rfl hn hsz hst (lv_room hroom) hdg hf) hS (fun q _ h => hF q h) hF (fun u t H1 locs1 ht hvm hw hB hz1 hk1 hS1 => ?_)
  obtain ⟨hP1, hD1⟩ := hB
  rw [ht] at hP1
  obtain ⟨hP2, hD2⟩ := va_join (wr := wr) (w1 := wf u) hP hD isC isR hC hR hnd hdis hk1 hF hP1 hD1
  exact kk u H1 locs1 hP2 hD2 hS1
theorem z_mkN {S0 : Type} {wf : S0 → va_W} (S : CallFix p m c cc nL s args Ts own) (hM : Met l y wsc rm (mkP G (.ref b :: As) wc H.size) (mkV G wc H.size wf) mc ms (va_A wc H.size)) (cw : va_CN R s args own index y host bytes maxL none wsc rm mc ms n ∧ y.name = "<init>" ∧ (Cond.instanceMethod y).before args s = true) (hK : kK G s) (hT : XT s) (hP : kP G wW H) (hD : va_D A0 wW) (hS : va_S A0 H0 H locs) (hA : ∀ q, H0.size ≤ q → A0 q) (isC isR : List Nat) (hC : isC.map (fun i => wW[i]?) = wc.map some) (hR : isR.map (fun i => wW[i]?) = wr.map some) (hndC : va_nd isC = true) (hnd : va_nd isR = true) (hdis : ∀ i ∈ isR, i ∉ isC) (hn : As.length = n) (hsz : ls.size = nL) (hst : st0 = As.reverse ++ .ref b :: rest) (hroom : (rest.map fun v => v.category).sum ≤ 8) (hdg : decode cc pc = .ok (.invokespecial index, 3)) (hf : cells + mc ≤ R.cells ∧ slots + ms ≤ R.slots)
    (kk : ∀ (u : S0) (H1 : Heap) (locs1 : List Loc), kP G (wr ++ wf u) H1 → va_D A0 (wr ++ wf u) → va_S A0 H0 H1 locs1 → W p l e R s m args below meth c H1 locs1 (cells + mc) (slots + ms) Q (F0 m (pc + 3) ls rest)) : W p l e R s m args below meth c H locs cells slots Q (F0 m pc ls st0) := by
  have hPc := sub_of hP hC
  have hDc := hD.sub isC hndC hC
  have hF := va_free hD hS hA isC hC
  refine va_callv (A1 := va_A wc H.size) (va_runIN S hM cw ⟨mkP_blind _ _ _ _, fun U hU hW => ⟨rfl, by rw [hU], by rw [hU]; exact hPc, va_K.moved hW.alike hK, hDc.weaken (fun _ _ _ _ => trivial), XT_warm hW hT⟩⟩ rfl hn hsz hst (lv_room hroom) hdg hf) hS (fun q _ h => hF q h) hF (fun u t H1 locs1 ht hvm hw hB hz1 hk1 hS1 => ?_)
  obtain ⟨hP1, hD1⟩ := hB
  rw [ht] at hP1
  obtain ⟨hP2, hD2⟩ := va_join (wr := wr) (w1 := wf u) hP hD isC isR hC hR hnd hdis hk1 hF hP1 hD1
  exact kk u H1 locs1 hP2 hD2 hS1
theorem z_newI (hx : p.tables.exec = Jvm.exec) (hb : c.code = cc) (harr : (Cond.arrayClass .int).before args s = true) (hK : kK G s) (hP : kP G wW H) (hD : va_D A0 wW) (hS : va_S A0 H0 H locs) (hA : ∀ q, H0.size ≤ q → A0 q) {n : Nat} (hn : n < 100000) (hcells : cells + 1 ≤ R.cells) (hslots : slots + n ≤ R.slots) (hdg : decode cc pc = .ok (.newarray .int, 2))
    (kk : ∀ (q : Nat) (H1 : Heap), kP G (wW ++ [(q, .inl (G.2.1, n, .inl (aZ (fun _ => 0))))]) H1 → va_D A0 (wW ++ [(q, .inl (G.2.1, n, .inl (aZ (fun _ => 0))))]) → va_S A0 H0 H1 locs → W p l e R s m args below meth c H1 locs (cells + 1) (slots + n) Q (F0 m (pc + 2) ls (.ref q :: rest))) : W p l e R s m args below meth c H locs cells slots Q (F0 m pc ls (.int (zI (n : Int)) :: rest)) := by
  refine va_newa (atype := .int) (a0 := (n, .inl (aZ (fun _ => 0)))) hx hb harr rfl hK hP hD hS hA (fun cA => rfl) (by rw [← zI_0, zI_lt ⟨by omega, by omega⟩ ⟨by omega, by omega⟩]; omega) (by rw [zI_cl (by omega) (by omega)]; omega) (by show n * 4 ≤ _; omega) hcells hslots hdg (fun q cA H1 hK1 hP1 hD1 hS1 => ?_)
  have h1 : s.vm.findClass ("[" ++ FieldType.int.toString) = some cA := (hK1.2 3 (cA, .int) rfl).2
  have h2 : s.vm.findClass ("[" ++ FieldType.int.toString) = some G.2.1 := (hK.2 0 (G.2.1, .int) rfl).2
  obtain rfl : cA = G.2.1 := Option.some.inj (h1.symm.trans h2)
  exact kk q H1 hP1 hD1 hS1
theorem z_newZ (hx : p.tables.exec = Jvm.exec) (hb : c.code = cc) (harr : (Cond.arrayClass .boolean).before args s = true) (hK : kK G s) (hP : kP G wW H) (hD : va_D A0 wW) (hS : va_S A0 H0 H locs) (hA : ∀ q, H0.size ≤ q → A0 q) {n : Nat} (hn : n < 100000) (hcells : cells + 1 ≤ R.cells) (hslots : slots + n ≤ R.slots) (hdg : decode cc pc = .ok (.newarray .boolean, 2))
    (kk : ∀ (q : Nat) (H1 : Heap), kP G (wW ++ [(q, .inl (G.2.2.1, n, .inl (aZ (fun _ => 0))))]) H1 → va_D A0 (wW ++ [(q, .inl (G.2.2.1, n, .inl (aZ (fun _ => 0))))]) → va_S A0 H0 H1 locs → W p l e R s m args below meth c H1 locs (cells + 1) (slots + n) Q (F0 m (pc + 2) ls (.ref q :: rest))) : W p l e R s m args below meth c H locs cells slots Q (F0 m pc ls (.int (zI (n : Int)) :: rest)) := by
  refine va_newa (atype := .boolean) (a0 := (n, .inl (aZ (fun _ => 0)))) hx hb harr rfl hK hP hD hS hA (fun cA => rfl) (by rw [← zI_0, zI_lt ⟨by omega, by omega⟩ ⟨by omega, by omega⟩]; omega) (by rw [zI_cl (by omega) (by omega)]; omega) (by show n * 1 ≤ _; omega) hcells hslots hdg (fun q cA H1 hK1 hP1 hD1 hS1 => ?_)
  have h1 : s.vm.findClass ("[" ++ FieldType.boolean.toString) = some cA := (hK1.2 3 (cA, .boolean) rfl).2
  have h2 : s.vm.findClass ("[" ++ FieldType.boolean.toString) = some G.2.2.1 := (hK.2 1 (G.2.2.1, .boolean) rfl).2
  obtain rfl : cA = G.2.2.1 := Option.some.inj (h1.symm.trans h2)
  exact kk q H1 hP1 hD1 hS1
theorem z_newQ (hx : p.tables.exec = Jvm.exec) (hb : c.code = cc) (hown : s.vm.findClass own = some m.cls) (hclink : (Cond.classLink own index RX2).before args s = true) (hT : XT s) (hK : kK G s) (hP : kP G wW H) (hD : va_D A0 wW) (hS : va_S A0 H0 H locs) (hA : ∀ q, H0.size ≤ q → A0 q) {n : Nat} (hn : n < 100000) (hcells : cells + 1 ≤ R.cells) (hslots : slots + n ≤ R.slots) (hdg : decode cc pc = .ok (.anewarray index, 3))
    (kk : ∀ (q : Nat) (H1 : Heap), kP G (wW ++ [(q, .inl (G.2.2.2, n, .inr (.inr (.inr (.inr (fun _ => none))))))]) H1 → va_D A0 (wW ++ [(q, .inl (G.2.2.2, n, .inr (.inr (.inr (.inr (fun _ => none))))))]) → va_S A0 H0 H1 locs → W p l e R s m args below meth c H1 locs (cells + 1) (slots + n) Q (F0 m (pc + 3) ls (.ref q :: rest))) : W p l e R s m args below meth c H locs cells slots Q (F0 m pc ls (.int (zI (n : Int)) :: rest)) := by
  refine va_newq hx hb hown hclink hT.1 hK hP hD hS hA (by rw [← zI_0, zI_lt ⟨by omega, by omega⟩ ⟨by omega, by omega⟩]; omega) (by rw [zI_cl (by omega) (by omega)]; exact Int.toNat_natCast n) (by omega) hcells hslots hdg (fun q cA H1 hK1 hP1 hD1 hS1 => ?_)
  have h1 : s.vm.findClass ("[" ++ (FieldType.object RX2).toString) = some cA := by
    obtain ⟨_, _, _, _, _, h⟩ := (hK1.2 3 (cA, .object RX2) rfl).2
    exact h
  have h2 : s.vm.findClass ("[" ++ (FieldType.object RX2).toString) = some G.2.2.2 := by
    obtain ⟨_, _, _, _, _, h⟩ := (hK.2 2 (G.2.2.2, .object "QuarterTurns$Lying") rfl).2
    exact h
  obtain rfl : cA = G.2.2.2 := Option.some.inj (h1.symm.trans h2)
  exact kk q H1 hP1 hD1 hS1
theorem z_astQ (hx : p.tables.exec = Jvm.exec) (hb : c.code = cc) (hK : kK G s) (hP : kP G wW H) (hD : va_D A0 wW) (hS : va_S A0 H0 H locs) (q0 qk : Nat) {a n v : Nat} {vs : List Value} {f : Nat → Option Nat} (ha : wW[q0]? = some (a, .inl (G.2.2.2, n, .inr (.inr (.inr (.inr f)))))) (hv : wW[qk]? = some (v, .inr (2, vs))) {i : Nat} (hi : i < n ∧ n < 100000) (hdg : decode cc pc = .ok (.aastore, 1))
    (kk : ∀ (H1 : Heap) (locs1 : List Loc), kP G (wW.set q0 (a, .inl (G.2.2.2, n, .inr (.inr (.inr (.inr (va_up f i (some v)))))))) H1 → va_D A0 (wW.set q0 (a, .inl (G.2.2.2, n, .inr (.inr (.inr (.inr (va_up f i (some v)))))))) → va_S A0 H0 H1 locs1 → W p l e R s m args below meth c H1 locs1 cells slots Q (F0 m (pc + 1) ls rest)) : W p l e R s m args below meth c H locs cells slots Q (F0 m pc ls (.ref v :: .int (zI (i : Int)) :: .ref a :: rest)) := by
  have e : (zI (i : Int)).toNatClampNeg = i := by rw [zI_cl (by omega) (by omega)]; exact Int.toNat_natCast i
  refine va_astq hx hb hK hP hD hS q0 2 qk 2 ha rfl hv rfl (zI_in (by omega) (by omega) (by omega)) hdg (fun H1 locs1 hP1 hD1 hS1 => ?_)
  rw [e] at hP1 hD1
  exact kk H1 locs1 hP1 hD1 hS1
end ZM
theorem cell_extQ (cA : ClassId) (n : Nat) {f g : Nat → Option Nat} (h : ∀ j, j < n → f j = g j) : vp_cell cA (n, .inr (.inr (.inr (.inr f)))) = vp_cell cA (n, .inr (.inr (.inr (.inr g)))) := by
  show arrV cA n (fun j => va_rf (f j)) = arrV cA n (fun j => va_rf (g j))
  unfold arrV
  congr 1
  apply Array.ext
  · simp
  · intro j h1 h2
    simp at h1 h2 ⊢
    rw [h j h1]
theorem P_extQ {G : CX} {ws : va_W} {H : Heap} {a q n : Nat} {f g : Nat → Option Nat} (hq : ws[q]? = some (a, .inl (G.2.2.2, n, .inr (.inr (.inr (.inr f)))))) (h : ∀ j, j < n → f j = g j) (hP : kP G ws H) : kP G (ws.set q (a, .inl (G.2.2.2, n, .inr (.inr (.inr (.inr g)))))) H := by
  intro k x hk
  rw [List.getElem?_set] at hk
  split at hk
  · rename_i hkq
    split at hk
    · cases hk
      have h1 := hP q _ hq
      show H[a]? = some (vp_cell G.2.2.2 (n, .inr (.inr (.inr (.inr g)))))
      rw [← cell_extQ G.2.2.2 n h]
      exact h1
    · cases hk
  · exact hP k x hk
theorem P_extI {G : CX} {ws : va_W} {H : Heap} {a q n : Nat} {f g : Int → Int} (hq : ws[q]? = some (a, .inl (G.2.1, n, .inl (aZ f)))) (h : ∀ j : Int, 0 ≤ j → j < n → f j = g j) (hP : kP G ws H) : kP G (ws.set q (a, .inl (G.2.1, n, .inl (aZ g)))) H := by
  intro k x hk
  rw [List.getElem?_set] at hk
  split at hk
  · rename_i hkq
    split at hk
    · cases hk
      have h1 := hP q _ hq
      show H[a]? = some (vp_cell G.2.1 (n, .inl (aZ g)))
      rw [← cell_ext G.2.1 n (f := aZ f) (g := aZ g) (fun j hj => by show zI (f j) = zI (g j); rw [h j (by omega) (by omega)])]
      exact h1
    · cases hk
  · exact hP k x hk
theorem D_set {A : Nat → Prop} {ws : va_W} {a q : Nat} {e e2 : va_E} (hq : ws[q]? = some (a, e)) (hD : va_D A ws) : va_D A (ws.set q (a, e2)) := by
  refine va_D_addr ?_ hD
  rw [List.map_set]
  show (ws.map Prod.fst).set q a = ws.map Prod.fst
  apply List.ext_getElem?
  intro k
  rw [List.getElem?_set]
  split
  · rename_i h
    subst h
    split
    · rw [List.getElem?_map, hq]; rfl
    · rename_i h2
      rw [List.getElem?_eq_none (by omega)]
  · rfl
/-! A LONG ANSWER -/
def rlQ (v : Int64) : Array Value → State → Outcome → State → Prop := va_Ql (fun (r : Int64) (_ : Unit) => r = v) (fun _ _ => True) noA
theorem rl_ofW {l : Launch} {y : MethodName} {ws ws' : List Cond} {rm : Room} {G : CX} {av : List Value} {wc : va_W} {v : Int64} {cc : ByteArray} {maxL : Nat} (hy : plainName y.cls = true) (hw : ws = Cond.code y cc maxL (some .long) :: ws') (hlen : (lg_sl av).length ≤ maxL)
    (body : ∀ (p : Program) (e : Env) (s : State) (m : MethodId) (below : List Frame) (meth : Method) (c : Code) (Q : State → Prop) (A : Nat → Prop), p.tables.exec = Jvm.exec → c.code = cc → c.maxLocals = maxL → s.vm.findClass y.cls = some m.cls → (∀ w ∈ ws, w.before av.toArray s = true) → kK G s →
      (∀ (H : Heap) (locs : List Loc) (ls : Array Slot) (pc : Nat) (r : Int64), r = v → va_S A s.heap H locs → decode cc pc = .ok (.lreturn, 1) → W p l e rm s m av.toArray below meth c H locs 0 0 Q (F0 m pc ls [.long r])) →
      ∀ (H : Heap) (locs : List Loc), kP G wc H → va_S A s.heap H locs → ∀ ls : Array Slot, lv_has ls maxL (lv_args 0 av) → W p l e rm s m av.toArray below meth c H locs 0 0 Q (F0 m 0 ls [])) : Met l y ws rm (rdP G av wc) (rlQ v) 0 0 noA := by
  refine Met.ofW (cc := cc) (maxL := maxL) (ret := some .long) hy hw ?_
  intro p e s m args below meth c s₁ B hml hv
  obtain ⟨rfl, hP, hK⟩ := hv
  have hlocks := B.notSynchronized
  have hr := B.returns
  have hl := lv_entry av (n := maxL) hlen
  rw [lg_entry_eq]
  refine body p e s m below meth c _ noA B.exec B.bytes hml (findClass_of_methodNamed B.named) (atoms_spec (ws := ws) B.pre) hK ?_ _ _ hP va_S.rf _ hl
  intro H locs ls pc r hrv hS hdg
  subst hrv
  exact W.lret B.exec B.bytes hr (fun t ht hW => ⟨⟨_, (), rfl, rfl, trivial⟩, hS.F ht⟩) hS.2.2 hdg
section ZLL
variable {p : Program} {l : Launch} {e : Env} {R : Room} {s : State} {m : MethodId} {args : Array Value} {below : List Frame} {meth : Method} {c : Code} {H : Heap} {locs : List Loc} {cells slots : Nat} {Q : State → Prop}
variable {cc bytes : ByteArray} {pc nL maxL index n ci : Nat} {ls : Array Slot} {rest st0 As : List Value} {own C : String} {y : MethodName} {ret : Option FieldType} {Ts wsc : List Cond} {rm : Room}
variable {G : CX} {wW wc : va_W} {A0 : Nat → Prop} {H0 : Heap} {b : Nat} {fs : List Value} {v : Int64}
theorem z_cVl (S : CallFix p m c cc nL s args Ts own) (hM : Met l y wsc rm (rdP G (.ref b :: As) wc) (rlQ v) 0 0 noA) (cw : CallW R s args own C index y bytes maxL ret wsc rm 0 0 n) (hK : kK G s) (hP : kP G wW H) (hS : va_S A0 H0 H locs) (is : List Nat) (hC : is.filterMap (fun i => wW[i]?) = wc) (hrecv : wc[0]? = some (b, .inr (ci, fs))) {q : vw_C} (hci : vwCl[ci]? = some q) (hq : q.1 = C) (hn : As.length = n) (hsz : ls.size = nL) (hst : st0 = As.reverse ++ .ref b :: rest) (hroom : (rest.map fun v => v.category).sum ≤ 8) (hdg : decode cc pc = .ok (.invokevirtual index, 3)) (hf : cells ≤ R.cells ∧ slots ≤ R.slots)
    (kk : ∀ (H : Heap) (locs : List Loc), kP G wW H → va_S A0 H0 H locs → W p l e R s m args below meth c H locs cells slots Q (F0 m (pc + 3) ls (.long v :: rest))) : W p l e R s m args below meth c H locs cells slots Q (F0 m pc ls st0) := by
  have hPc := hP.sub is hC
  refine va_calll (A1 := noA) (va_runV S hM cw ⟨rdP_blind _ _ _, by rw [← hq]; exact va_recv hK hPc hci hrecv, fun U hU hW => ⟨rfl, by rw [hU]; exact hPc, va_K.moved hW.alike hK⟩⟩ rfl hn hsz hst (lv_room hroom) hdg hf) hS (fun q _ h => h.elim) (fun q h => h.elim) (fun r u t H1 locs1 ht hvm hw _ hz1 hk1 hS1 => ?_)
  subst hw
  exact kk H1 locs1 (hP.kept (fun k q hk => hk1 q.1 ((hP k q hk).lt) (fun h => h))) hS1
end ZLL
