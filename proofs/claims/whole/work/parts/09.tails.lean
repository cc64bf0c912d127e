def shf (n : Nat) : Nat → List Nat
  | 0 => []
  | k + 1 => n :: shf (n + 1) k
theorem shf_ge : ∀ (k n i : Nat), i ∈ shf n k → n ≤ i
  | 0, n, i, h => by simp [shf] at h
  | k + 1, n, i, h => by
    simp only [shf, List.mem_cons] at h
    rcases h with h | h
    · omega
    · have := shf_ge k (n + 1) i h
      omega
theorem shf_nd : ∀ (k n : Nat), va_nd (shf n k) = true
  | 0, n => rfl
  | k + 1, n => by
    show (decide (n ∉ shf (n + 1) k) && va_nd (shf (n + 1) k)) = true
    have h : n ∉ shf (n + 1) k := fun h => by have := shf_ge k (n + 1) n h; omega
    rw [shf_nd k (n + 1), decide_eq_true h]
    rfl
theorem nd_app {n k : Nat} : ∀ (is : List Nat), va_nd is = true → (∀ i ∈ is, i < n) → va_nd (is ++ shf n k) = true
  | [], _, _ => shf_nd k n
  | a :: l, h, hl => by
    have h' : (decide (a ∉ l) && va_nd l) = true := h
    rw [Bool.and_eq_true] at h'
    show (decide (a ∉ l ++ shf n k) && va_nd (l ++ shf n k)) = true
    rw [nd_app l h'.2 (fun i hi => hl i (List.mem_cons_of_mem _ hi)), decide_eq_true, Bool.and_true]
    intro hm
    rcases List.mem_append.mp hm with h1 | h1
    · exact of_decide_eq_true h'.1 h1
    · have := shf_ge k n a h1
      have := hl a List.mem_cons_self
      omega
theorem shf_map : ∀ (R X : va_W), (shf X.length R.length).map (fun i => (X ++ R)[i]?) = R.map some
  | [], X => rfl
  | r :: R, X => by
    show ((X ++ r :: R)[X.length]?) :: (shf (X.length + 1) R.length).map (fun i => (X ++ r :: R)[i]?) = some r :: R.map some
    have h1 : (X ++ r :: R)[X.length]? = some r := by simp
    have h2 : X ++ r :: R = (X ++ [r]) ++ R := by simp
    have h3 : X.length + 1 = (X ++ [r]).length := by simp
    rw [h1, h2, h3, shf_map R (X ++ [r])]
theorem is_lt {X wcx : va_W} : ∀ {is : List Nat}, is.map (fun i => X[i]?) = wcx.map some → ∀ i ∈ is, i < X.length := by
  intro is h i hi
  have h1 : X[i]? ∈ is.map (fun i => X[i]?) := List.mem_map.mpr ⟨i, hi, rfl⟩
  rw [h] at h1
  obtain ⟨q, -, hq⟩ := List.mem_map.mp h1
  exact (List.getElem?_eq_some_iff.mp hq.symm).1
theorem tail_C {X wcx R : va_W} {is : List Nat} (h : is.map (fun i => X[i]?) = wcx.map some) : (is ++ shf X.length R.length).map (fun i => (X ++ R)[i]?) = (wcx ++ R).map some := by
  rw [List.map_append, List.map_append, shf_map, ← h]
  congr 1
  apply List.map_congr_left
  intro i hi
  rw [List.getElem?_append_left (is_lt h i hi)]
theorem puts_base : ∀ (R rx X : va_W), R.length = rx.length → puts (X ++ R) (shf X.length R.length) rx = X ++ rx
  | [], [], X, _ => by simp [shf, puts]
  | [], _ :: _, X, h => by simp at h
  | _ :: _, [], X, h => by simp at h
  | r :: R, q :: rx, X, h => by
    show puts ((X ++ r :: R).set X.length q) (shf (X.length + 1) R.length) rx = X ++ q :: rx
    have h1 : (X ++ r :: R).set X.length q = (X ++ [q]) ++ R := by simp
    have h3 : X.length + 1 = (X ++ [q]).length := by simp
    rw [h1, h3, puts_base R rx (X ++ [q]) (by simpa using h)]
    simp
theorem puts_tail : ∀ (is : List Nat) (wx X R rx : va_W), is.length = wx.length → (∀ i ∈ is, i < X.length) → R.length = rx.length → puts (X ++ R) (is ++ shf X.length R.length) (wx ++ rx) = puts X is wx ++ rx
  | [], [], X, R, rx, _, _, h => puts_base R rx X h
  | [], _ :: _, X, R, rx, h, _, _ => by simp at h
  | _ :: _, [], X, R, rx, h, _, _ => by simp at h
  | i :: is, c :: wx, X, R, rx, hl, hi, h => by
    show puts ((X ++ R).set i c) (is ++ shf X.length R.length) (wx ++ rx) = puts (X.set i c) is wx ++ rx
    have h1 : (X ++ R).set i c = X.set i c ++ R := List.set_append_left _ _ (hi i List.mem_cons_self)
    have h2 : X.length = (X.set i c).length := by simp
    rw [h1, h2]
    exact puts_tail is wx (X.set i c) R rx (by simpa using hl) (fun j hj => by rw [List.length_set]; exact hi j (List.mem_cons_of_mem _ hj)) h
theorem ringW_adr (G : CX) (pa pb : Nat → Nat) (a b c a2 b2 c2 : Int → Int) (d d2 : Int → Int → Int) : (ringW G pa pb a b c d).map Prod.fst = (ringW G pa pb a2 b2 c2 d2).map Prod.fst :=
  Eq.trans (b := [pa 0, pb 0, pa 1, pb 1, pa 2, pb 2, pa 3, pb 3, pa 4, pb 4, pa 5, pb 5, pa 6, pb 6, pa 7, pb 7, pa 8, pb 8, pa 9, pb 9]) rfl rfl
section ZT
variable {p : Program} {l : Launch} {e : Env} {R : Room} {s : State} {m : MethodId} {args : Array Value} {below : List Frame} {meth : Method} {c : Code} {H : Heap} {locs : List Loc} {cells slots : Nat} {Q : State → Prop}
variable {cc bytes : ByteArray} {pc nL maxL index n ci : Nat} {ls : Array Slot} {rest st0 As : List Value} {own C : String} {y : MethodName} {ret : Option FieldType} {Ts wsc : List Cond} {rm : Room}
variable {G : CX} {X wcx Rw : va_W} {A0 : Nat → Prop} {H0 : Heap} {b : Nat} {fs : List Value} {v : Int32}
theorem z_wVt {S0 : Type} {post : Int32 → S0 → Prop} {wf : S0 → va_W} (wx rx : S0 → va_W) (S : CallFix p m c cc nL s args Ts own) (hM : Met l y wsc rm (wrP G (.ref b :: As) (wcx ++ Rw)) (wrQ G (wcx ++ Rw) post wf) 0 0 (wrA (wcx ++ Rw))) (cw : CallW R s args own C index y bytes maxL ret wsc rm 0 0 n) (hK : kK G s) (hP : kP G (X ++ Rw) H) (hD : va_D A0 (X ++ Rw)) (hS : va_S A0 H0 H locs) (is : List Nat) (hnd : va_nd is = true) (hC : is.map (fun i => X[i]?) = wcx.map some) (hrecv : wcx[0]? = some (b, .inr (ci, fs))) {q : vw_C} (hci : vwCl[ci]? = some q) (hq : q.1 = C) (hwf : ∀ u, wf u = wx u ++ rx u) (hax : ∀ u, (wx u).map Prod.fst = wcx.map Prod.fst) (har : ∀ u, (rx u).map Prod.fst = Rw.map Prod.fst) (hn : As.length = n) (hsz : ls.size = nL) (hst : st0 = As.reverse ++ .ref b :: rest) (hroom : (rest.map fun v => v.category).sum ≤ 8) (hdg : decode cc pc = .ok (.invokevirtual index, 3)) (hf : cells ≤ R.cells ∧ slots ≤ R.slots)
    (kk : ∀ (r : Int32) (u : S0) (H : Heap) (locs : List Loc), post r u → kP G (puts X is (wx u) ++ rx u) H → va_D A0 (puts X is (wx u) ++ rx u) → va_S A0 H0 H locs → W p l e R s m args below meth c H locs cells slots Q (F0 m (pc + 3) ls (.int r :: rest))) : W p l e R s m args below meth c H locs cells slots Q (F0 m pc ls st0) := by
  have hlt := is_lt hC
  have hlen : ∀ u, is.length = (wx u).length := fun u => by
    have h1 := congrArg List.length hC
    have h2 := congrArg List.length (hax u)
    simp at h1 h2
    omega
  have hR : ∀ u, Rw.length = (rx u).length := fun u => by
    have h2 := congrArg List.length (har u)
    simp at h2
    omega
  refine z_wV S hM cw hK hP hD hS (is ++ shf X.length Rw.length) (nd_app is hnd hlt) (tail_C hC) (by rw [List.getElem?_append_left (List.getElem?_eq_some_iff.mp hrecv).1]; exact hrecv) hci hq (fun u => by rw [hwf u, List.map_append, List.map_append, hax u, har u]) hn hsz hst hroom hdg hf (fun r u H locs h1 h2 h3 h4 => kk r u H locs h1 ?_ ?_ h4)
  · rw [hwf u, puts_tail is (wx u) X Rw (rx u) (hlen u) hlt (hR u)] at h2
    exact h2
  · rw [hwf u, puts_tail is (wx u) X Rw (rx u) (hlen u) hlt (hR u)] at h3
    exact h3
theorem z_wVvt {S0 : Type} {post : S0 → Prop} {wf : S0 → va_W} (wx rx : S0 → va_W) (S : CallFix p m c cc nL s args Ts own) (hM : Met l y wsc rm (wrP G (.ref b :: As) (wcx ++ Rw)) (wrV G (wcx ++ Rw) post wf) 0 0 (wrA (wcx ++ Rw))) (cw : CallW R s args own C index y bytes maxL ret wsc rm 0 0 n) (hK : kK G s) (hP : kP G (X ++ Rw) H) (hD : va_D A0 (X ++ Rw)) (hS : va_S A0 H0 H locs) (is : List Nat) (hnd : va_nd is = true) (hC : is.map (fun i => X[i]?) = wcx.map some) (hrecv : wcx[0]? = some (b, .inr (ci, fs))) {q : vw_C} (hci : vwCl[ci]? = some q) (hq : q.1 = C) (hwf : ∀ u, wf u = wx u ++ rx u) (hax : ∀ u, (wx u).map Prod.fst = wcx.map Prod.fst) (har : ∀ u, (rx u).map Prod.fst = Rw.map Prod.fst) (hn : As.length = n) (hsz : ls.size = nL) (hst : st0 = As.reverse ++ .ref b :: rest) (hroom : (rest.map fun v => v.category).sum ≤ 8) (hdg : decode cc pc = .ok (.invokevirtual index, 3)) (hf : cells ≤ R.cells ∧ slots ≤ R.slots)
    (kk : ∀ (u : S0) (H : Heap) (locs : List Loc), post u → kP G (puts X is (wx u) ++ rx u) H → va_D A0 (puts X is (wx u) ++ rx u) → va_S A0 H0 H locs → W p l e R s m args below meth c H locs cells slots Q (F0 m (pc + 3) ls rest)) : W p l e R s m args below meth c H locs cells slots Q (F0 m pc ls st0) := by
  have hlt := is_lt hC
  have hlen : ∀ u, is.length = (wx u).length := fun u => by
    have h1 := congrArg List.length hC
    have h2 := congrArg List.length (hax u)
    simp at h1 h2
    omega
  have hR : ∀ u, Rw.length = (rx u).length := fun u => by
    have h2 := congrArg List.length (har u)
    simp at h2
    omega
  refine z_wVv S hM cw hK hP hD hS (is ++ shf X.length Rw.length) (nd_app is hnd hlt) (tail_C hC) (by rw [List.getElem?_append_left (List.getElem?_eq_some_iff.mp hrecv).1]; exact hrecv) hci hq (fun u => by rw [hwf u, List.map_append, List.map_append, hax u, har u]) hn hsz hst hroom hdg hf (fun u H locs h1 h2 h3 h4 => kk u H locs h1 ?_ ?_ h4)
  · rw [hwf u, puts_tail is (wx u) X Rw (rx u) (hlen u) hlt (hR u)] at h2
    exact h2
  · rw [hwf u, puts_tail is (wx u) X Rw (rx u) (hlen u) hlt (hR u)] at h3
    exact h3
end ZT
