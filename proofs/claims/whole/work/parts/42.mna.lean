/-! The instruction's own text walked: first the outer row, no place of it set; then one inner row after the other, each put into its place. -/
def mn_o (cA : ClassId) (N a i : Nat) : Cell := arrV cA N (fun j => va_rf (if j < i then some (a + 1 + j) else none))
def mn_r (cC : ClassId) (K : Nat) : Cell := arrV cC K (fun _ => .int 0)
theorem mn_o_z (cA : ClassId) (N a : Nat) : ({ cls := cA, slots := Array.replicate N .null, vm := .none } : Cell) = mn_o cA N a 0 := by
  rw [arrV_new]
  refine congrArg (arrV cA N) (funext fun j => ?_)
  simp [va_rf]
theorem mn_o_s (cA : ClassId) (N a i : Nat) : (mn_o cA N a i).setSlot i (.ref (a + 1 + i)) = mn_o cA N a (i + 1) := by
  unfold mn_o
  rw [arrV_store]
  refine congrArg (arrV cA N) (funext fun j => ?_)
  unfold updV
  dsimp only
  rcases Nat.lt_trichotomy j i with h | h | h
  · rw [if_neg (by omega), if_pos h, if_pos (by omega)]
  · rw [if_pos h, if_pos (by omega), h]
    rfl
  · rw [if_neg (by omega), if_neg (by omega), if_neg (by omega)]
theorem mn_pu {V : State} {q : Cell} {x : Nat} (h : x < V.heap.size) : (V.pushCell q).heap[x]? = V.heap[x]? := by
  show (V.heap.push q)[x]? = _
  rw [Array.getElem?_push, if_neg (by omega)]
/-- U with the outer row and i inner ones -/
def mn_S (U : State) (cA cC : ClassId) (N K : Nat) : Nat → State
  | 0 => U.pushCell (mn_o cA N U.heap.size 0)
  | i + 1 => ((mn_S U cA cC N K i).pushCell (mn_r cC K)).setCell U.heap.size (mn_o cA N U.heap.size (i + 1))
theorem mn_S_t (U : State) (f : JFrame) (cA cC : ClassId) (N K : Nat) : ∀ i : Nat, mn_S (U.setTop f) cA cC N K i = (mn_S U cA cC N K i).setTop f
  | 0 => rfl
  | i + 1 => by
    show ((mn_S (U.setTop f) cA cC N K i).pushCell _).setCell _ _ = _
    rw [mn_S_t U f cA cC N K i]
    rfl
theorem mn_S_f (U : State) (cA cC : ClassId) (N K : Nat) : ∀ i : Nat, (mn_S U cA cC N K i).vm = U.vm ∧ (mn_S U cA cC N K i).heap.size = U.heap.size + 1 + i ∧ (mn_S U cA cC N K i).slotsUsed = U.slotsUsed + N + i * K ∧ (∀ x : Nat, x < U.heap.size → (mn_S U cA cC N K i).heap[x]? = U.heap[x]?) ∧ (mn_S U cA cC N K i).heap[U.heap.size]? = some (mn_o cA N U.heap.size i) ∧ ∀ j : Nat, j < i → (mn_S U cA cC N K i).heap[U.heap.size + 1 + j]? = some (mn_r cC K)
  | 0 => by
    refine ⟨rfl, ?_, ?_, fun x hx => ?_, ?_, fun j h => absurd h (Nat.not_lt_zero _)⟩
    · show (U.heap.push _).size = _
      rw [Array.size_push]
    · show U.slotsUsed + (arrV cA N _).slots.size = _
      rw [arrV_size, Nat.zero_mul]
      rfl
    · show (U.heap.push _)[x]? = _
      rw [Array.getElem?_push, if_neg (by omega)]
    · show (U.heap.push _)[U.heap.size]? = _
      rw [Array.getElem?_push, if_pos rfl]
  | i + 1 => by
    obtain ⟨a1, a2, a3, a4, a5, a6⟩ := mn_S_f U cA cC N K i
    have hh : (mn_S U cA cC N K (i + 1)).heap = ((mn_S U cA cC N K i).heap.push (mn_r cC K)).setIfInBounds U.heap.size (mn_o cA N U.heap.size (i + 1)) := rfl
    have hg : ∀ x : Nat, x ≠ U.heap.size → (mn_S U cA cC N K (i + 1)).heap[x]? = if x = U.heap.size + 1 + i then some (mn_r cC K) else (mn_S U cA cC N K i).heap[x]? := fun x hx => by
      rw [hh, Array.getElem?_setIfInBounds, if_neg (fun h => hx h.symm), Array.getElem?_push, a2]
    refine ⟨a1, ?_, ?_, fun x hx => ?_, ?_, fun j hj => ?_⟩
    · rw [hh, Array.size_setIfInBounds, Array.size_push, a2]
      omega
    · show (mn_S U cA cC N K i).slotsUsed + (arrV cC K _).slots.size = _
      rw [a3, arrV_size, Nat.succ_mul]
      omega
    · rw [hg x (by omega), if_neg (by omega), a4 x hx]
    · rw [hh, Array.getElem?_setIfInBounds, if_pos rfl, if_pos (by rw [Array.size_push, a2]; omega)]
    · rw [hg _ (by omega)]
      by_cases h : j = i
      · rw [if_pos (by omega)]
      · rw [if_neg (by omega), a6 j (by omega)]
section MNW
variable {E : CtlPost} {e : Env}
/-- a loop over places, each of which takes one state of a row of states to the next -/
theorem mn_it (f : Nat → PUnit → Sem (ForInStep PUnit)) (V : Nat → State) (N : Nat) (hf : ∀ (i : Nat) (d : Bool) (acts : List Action) (Q : ForInStep PUnit → Pre), i < N → (∀ d' acts', Q (ForInStep.yield PUnit.unit) d' acts' (V (i + 1))) → wp (f i PUnit.unit) Q E e d acts (V i)) {Q : PUnit → Pre} (hq : ∀ d' acts', Q PUnit.unit d' acts' (V N)) : ∀ (r i : Nat) (d : Bool) (acts : List Action), i + r = N → wp (forIn (List.range' i r 1) PUnit.unit f) Q E e d acts (V i)
  | 0, i, d, acts, h => by
    obtain rfl : i = N := by omega
    simp only [List.range'_zero, List.forIn_nil, wp_pure']
    exact hq _ _
  | r + 1, i, d, acts, h => by
    simp only [List.range'_succ, List.forIn_cons, wp_bind']
    exact hf i d acts _ (by omega) (fun d' acts' => mn_it f V N hf hq r (i + 1) d' acts' (by omega))
variable {U : State} {cA cC cc : ClassId} {kA kC : Class} {n k : Int32} {d : Bool} {acts : List Action} {Q : Addr → Pre}
theorem mn_mi (hC : U.vm.classes[cC]? = some kC) (hC2 : kC.kind = .array cc .int) (hk : ¬ k < 0) (hl : ¬ k.toNatClampNeg > e.platform.arrayLengthLimit) (hb : ¬ k.toNatClampNeg * componentBytes .int > e.platform.maxHeapBytes) (h1 : U.heap.size < e.platform.maxCells) (h2 : U.slotsUsed + k.toNatClampNeg ≤ e.platform.maxSlots) (hq : ∀ acts', Q U.heap.size d acts' (U.pushCell (mn_r cC k.toNatClampNeg))) : wp (multianewarray.make cC [k]) Q E e d acts U := by
  have h3 : wp (Jvm.newArray cC k.toNatClampNeg (defaultValue .int)) Q E e d acts U := W.newArray_of hC hC2 hl hb h1 h2 rfl (fun acts' => by
    have h4 := hq acts'
    unfold mn_r at h4
    rw [← arrV_new] at h4
    exact h4)
  rw [multianewarray.make]
  simp only [wp_bind', W.ite, hk, if_false, wp_pure', W.theClass, hC, hC2, Option.some.injEq, exists_eq_left']
  exact h3
theorem mn_mo (hA : U.vm.classes[cA]? = some kA) (hA2 : kA.kind = .array cC (.array .int)) (hC : U.vm.classes[cC]? = some kC) (hC2 : kC.kind = .array cc .int) (hn : ¬ n < 0) (hk : ¬ k < 0) (hl1 : ¬ n.toNatClampNeg > e.platform.arrayLengthLimit) (hb1 : ¬ n.toNatClampNeg * componentBytes (.array .int) > e.platform.maxHeapBytes) (hl2 : ¬ k.toNatClampNeg > e.platform.arrayLengthLimit) (hb2 : ¬ k.toNatClampNeg * componentBytes .int > e.platform.maxHeapBytes) (h1 : U.heap.size + 1 + n.toNatClampNeg ≤ e.platform.maxCells) (h2 : U.slotsUsed + n.toNatClampNeg + n.toNatClampNeg * k.toNatClampNeg ≤ e.platform.maxSlots) (hq : ∀ d' acts', Q U.heap.size d' acts' (mn_S U cA cC n.toNatClampNeg k.toNatClampNeg n.toNatClampNeg)) : wp (multianewarray.make cA [n, k]) Q E e d acts U := by
  have hfd : ([k].find? (· < 0)) = none := by simp [hk]
  have hz : U.pushCell { cls := cA, slots := Array.replicate n.toNatClampNeg .null, vm := .none } = mn_S U cA cC n.toNatClampNeg k.toNatClampNeg 0 := congrArg U.pushCell (mn_o_z _ _ _)
  rw [multianewarray.make]
  simp only [wp_bind', W.ite, hn, if_false, wp_pure', W.theClass, hA, hA2, Option.some.injEq, exists_eq_left']
  refine W.newArray_of hA hA2 hl1 hb1 (by omega) (by have := Nat.zero_le (n.toNatClampNeg * k.toNatClampNeg); omega) rfl (fun acts' => ?_)
  rw [hz]
  simp only [hfd]
  rw [ite_self, wp_bind', Std.Legacy.Range.forIn_eq_forIn_range', show ([:n.toNatClampNeg] : Std.Legacy.Range).size = n.toNatClampNeg by simp [Std.Legacy.Range.size]]
  refine mn_it _ (mn_S U cA cC n.toNatClampNeg k.toNatClampNeg) n.toNatClampNeg (fun i d acts Q' hi hQ => ?_) (fun d' acts' => ?_) n.toNatClampNeg 0 _ _ (Nat.zero_add _)
  · obtain ⟨a1, a2, a3, -, a5, -⟩ := mn_S_f U cA cC n.toNatClampNeg k.toNatClampNeg i
    have hm : i * k.toNatClampNeg + k.toNatClampNeg ≤ n.toNatClampNeg * k.toNatClampNeg := by
      rw [← Nat.succ_mul]
      exact Nat.mul_le_mul_right _ hi
    simp only [wp_bind']
    refine mn_mi (by rw [a1]; exact hC) hC2 hk hl2 hb2 (by omega) (by omega) (fun acts'' => ?_)
    simp only [wp_bind', W.writeLoc, wp_pure']
    refine ⟨mn_o cA n.toNatClampNeg U.heap.size i, (mn_pu (by omega)).trans a5, by simp [mn_o, arrV], by unfold mn_o; rw [arrV_size]; exact hi, ?_, ?_⟩
    · simp [mn_o, arrV, State.fitsSlot, State.slotType?, a1, hA, hA2, fits]
    · rw [a2, mn_o_s]
      exact hQ _ _
  · simp only [wp_pure']
    exact hq _ _
end MNW
section MNX
variable {p : Program} {l : Launch} {e : Env} {R : Room} {s : State} {m : MethodId} {args : Array Value} {below : List Frame} {meth : Method} {c : Code} {T U : State} {locs : List Loc} {cells slots : Nat}
theorem mn_S_X (X : Stand p l e R s m args below meth c U locs cells slots) (cA cC : ClassId) (N K : Nat) : ∀ i : Nat, Stand p l e R s m args below meth c (mn_S U cA cC N K i) locs (cells + 1 + i) (slots + N + i * K)
  | 0 => by
    have h := X.pushed (mn_o cA N U.heap.size 0)
    rw [show (mn_o cA N U.heap.size 0).slots.size = N from arrV_size _ _ _] at h
    rw [Nat.zero_mul]
    exact h
  | i + 1 => by
    obtain ⟨-, a2, -, -, a5, -⟩ := mn_S_f U cA cC N K i
    have h := ((mn_S_X X cA cC N K i).pushed (mn_r cC K)).stored (a := U.heap.size) (cell := mn_o cA N U.heap.size i) ((mn_pu (by omega)).trans a5) i (.ref (U.heap.size + 1 + i))
    rw [mn_o_s] at h
    have h2 := h.dropFresh (fun x hx => by rw [List.mem_singleton.mp hx]; exact X.heapGrown)
    rw [show (mn_r cC K).slots.size = K from arrV_size _ _ _] at h2
    rw [show slots + N + (i + 1) * K = slots + N + i * K + K by rw [Nat.succ_mul]; omega]
    exact h2
theorem mn_st (X : Stand p l e R s m args below meth c T locs cells slots) (hexec : p.tables.exec = Jvm.exec) {own : String} {idx : Nat} (hown : s.vm.findClass own = some m.cls) (hlk : (Cond.classLink own idx ("[" ++ (FieldType.array .int).toString)).before args s = true) (hAA : mx_AA s) (har : (Cond.arrayClass .int).before args s = true) {g : JFrame} (hg : g.method = m) (hd : decode c.code g.pc = .ok (.multianewarray idx 2, 4)) {n k : Int32} {rest : List Value} (hst : g.stack = .int k :: .int n :: rest) (hn : ¬ n < 0) (hk : ¬ k < 0) (hb1 : n.toNatClampNeg * 4 ≤ 536870912) (hb2 : k.toNatClampNeg * componentBytes .int ≤ 536870912) (hb3 : k.toNatClampNeg ≤ 536870912) (hcells : cells + (1 + n.toNatClampNeg) ≤ R.cells) (hslots : slots + (n.toNatClampNeg + n.toNatClampNeg * k.toNatClampNeg) ≤ R.slots) : ∃ (vm₁ : Vm) (cA cC : ClassId), s.vm.findClass ("[" ++ (FieldType.array .int).toString) = some cA ∧ s.vm.findClass (FieldType.array .int).toString = some cC ∧ Stand p l e R s m args below meth c (mn_S (T.setVm vm₁) cA cC n.toNatClampNeg k.toNatClampNeg n.toNatClampNeg) locs (cells + 1 + n.toNatClampNeg) (slots + n.toNatClampNeg + n.toNatClampNeg * k.toNatClampNeg) ∧ ∀ target, Steps p.tables e below ((mn_S (T.setVm vm₁) cA cC n.toNatClampNeg k.toNatClampNeg n.toNatClampNeg).setTop { g with pc := g.pc + 4, stack := .ref T.heap.size :: rest }) target → Steps p.tables e below (T.setTop g) target := by
  subst hg
  obtain ⟨cC, cA, kA, fC, -, hA, hA2, fA⟩ := mx_AA_spec hAA
  obtain ⟨cC', kC, cc, fC', hC, hC2⟩ := Cond.arrayClass_spec har
  obtain rfl : cC' = cC := Option.some.inj (fC'.symm.trans fC)
  obtain ⟨cA', fA', hlinks⟩ := Cond.classLink_spec hown hlk e.platform (by rw [X.admits.platform])
  obtain rfl : cA' = cA := Option.some.inj (fA'.symm.trans fA)
  obtain ⟨hgive, hwarm, -⟩ := State.classEntry (e := e) X.warmed hlinks
  generalize T.vm.noted g.method.cls idx (.cls cA') = vm₁ at hgive hwarm
  obtain ⟨kA₁, hA₁, eA⟩ := hwarm.alike.2.2 _ _ hA
  obtain ⟨kC₁, hC₁, eC⟩ := hwarm.alike.2.2 _ _ hC
  have hA2₁ : kA₁.kind = .array cC' (.array .int) := by rw [eA]; exact hA2
  have hC2₁ : kC₁.kind = .array cc .int := by rw [eC]; exact hC2
  have hlim := Launch.admits_arrayLengthLimit X.admits
  have hmem := Launch.admits_maxHeapBytes X.admits
  obtain ⟨r1, r2⟩ := X.roomAbove hcells hslots
  have XF := mn_S_X (X.noted hwarm) cA' cC' n.toNatClampNeg k.toNatClampNeg n.toNatClampNeg
  refine ⟨vm₁, cA', cC', fA, fC, XF, fun target hrest => ?_⟩
  jvm_step X.here [hexec, hd]
  simp only [multianewarray.sem, wp_bind', W.resolveClassAt_links (State.method?_setTop g X.here.top) hgive]
  rw [W.popN, if_neg (by decide)]
  refine ⟨g, State.topJava?_setTop' (s := T.setVm vm₁) g X.here.top, [.int n, .int k], rest, rfl, hst, ?_⟩
  simp only [List.mapM_cons, List.mapM_nil, wp_bind', wp_pure']
  rw [show ((T.setTop g).setVm vm₁).setTop { g with stack := rest } = (T.setVm vm₁).setTop { g with stack := rest } from State.setTop_setTop (T.setVm vm₁) g _]
  refine mn_mo (kA := kA₁) (kC := kC₁) (cC := cC') (cc := cc) hA₁ hA2₁ hC₁ hC2₁ hn hk (by omega) (by rw [hmem]; show ¬ n.toNatClampNeg * 4 > 536870912; omega) (by omega) (by omega) (by show T.heap.size + 1 + n.toNatClampNeg ≤ _; omega) (by show T.slotsUsed + _ + _ ≤ _; omega) (fun d' acts' => ?_)
  rw [mn_S_t]
  simp only [wp_bind', W.mark, W.pushRef, State.topJava?_setTop' _ XF.here.top, Option.some.injEq, exists_eq_left', State.setTop_setTop, State.heap_setTop]
  intro acts
  simp [jvm, XF.here.top]
  exact hrest
end MNX
def mx_rows (a t t0 N K : Nat) : List mx_Sh := .inr (.inr (t, (List.range N).map fun i => some (a + 1 + i))) :: List.replicate N (.inr (.inl (t0, K)))
def mx_zs (D : mx_Mem) (a : Nat) : mx_Mem := fun q => if a ≤ q then fun _ => 0 else D q
theorem mx_sl_ap (a b : List mx_Sh) : mx_sl (a ++ b) = mx_sl a + mx_sl b := by unfold mx_sl; rw [List.map_append, List.sum_append_nat]
theorem mx_rows_len (a t t0 N K : Nat) : (mx_rows a t t0 N K).length = N + 1 := by simp [mx_rows]
theorem mx_rows_sl (a t t0 N K : Nat) : mx_sl (mx_rows a t t0 N K) = N + N * K := by
  unfold mx_sl mx_rows
  rw [List.map_cons, List.sum_cons, List.map_replicate, List.sum_replicate_nat]
  simp [mx_n]
section MNA
variable {G : mx_G} {d : Nat} {M : mx_M} {pc : Nat} {lc : List (Option Value)} {st : List Value} {S S' : List mx_Sh} {D : mx_Mem} {Post : Option Value → mx_Mem → Prop}
theorem EV.mna {idx t t0 N K : Nat} {n k : Int32} (ht : mx_ty[t]? = some (.array .int)) (ht0 : mx_ty[t0]? = some .int) (hl : Cond.classLink M.1.cls idx ("[" ++ (FieldType.array .int).toString) ∈ mx_gw) (hac : Cond.arrayClass .int ∈ mx_gw) (hn : ¬ n < 0) (hk : ¬ k < 0) (hN : n.toNatClampNeg = N) (hKK : k.toNatClampNeg = K) (hb1 : N * 4 ≤ 536870912) (hb2 : K * componentBytes .int ≤ 536870912) (hb3 : K ≤ 536870912) (hd : decode M.2.1 pc = .ok (.multianewarray idx 2, 4)) (kk : EV G d M (pc + 4) lc (.ref S.length :: st) (S ++ mx_rows S.length t t0 N K) (mx_zs D S.length) S' Post) : EV G d M pc lc (.int k :: .int n :: st) S D S' Post := by
  have k1 := kk.1
  rw [mx_sl_ap, List.length_append, mx_rows_len, mx_rows_sl] at k1
  refine ⟨⟨by omega, by omega⟩, fun p e R s m args below meth c H locs cells slots Q ls cx hH hS hlv h0 h1 h2 hr => ?_⟩
  have cx' := cx
  obtain ⟨hx, hcb, -, -, hown, hts, hnw, hK, -, -, ⟨-, -, hbs⟩, -⟩ := cx
  subst hN
  subst hKK
  intro T hT Xs
  obtain ⟨vm₁, cA, comp, fA, fC, X', step⟩ := mn_st Xs hx hown (hts _ hl) hnw.2.2 (hts _ hac) (g := F0 m pc ls (.int k :: .int n :: st.map (mx_cv G))) rfl (by rw [hcb]; exact hd) rfl hn hk hb1 hb2 hb3 (by omega) (by omega)
  have hTh : (T.setVm vm₁).heap = H := hT
  obtain ⟨-, f1, -, hold, f2, hrow⟩ := mn_S_f (T.setVm vm₁) cA comp n.toNatClampNeg k.toNatClampNeg n.toNatClampNeg
  generalize mn_S (T.setVm vm₁) cA comp n.toNatClampNeg k.toNatClampNeg n.toNatClampNeg = F at X' step f1 hold f2 hrow
  rw [hTh] at f1 hold f2 hrow
  have eA : cA = mx_cA G t := mx_RA (U := s) (ty := .array .int) fA (hK.2 t _ (mx_tys_at ht)).2
  have eC : comp = mx_cA G t0 := mx_RA (U := s) (ty := .int) fC (hK.2 t0 _ (mx_tys_at ht0)).2
  subst eA eC
  have hsz := hH.1
  have hP1 : va_P (mx_dd G) vwCl (mx_ws G (S ++ mx_rows S.length t t0 n.toNatClampNeg k.toNatClampNeg) (mx_zs D S.length)) F.heap := by
    intro i q hq
    obtain ⟨hi, -⟩ := mx_wsk hq
    rw [List.length_append, mx_rows_len] at hi
    by_cases h9 : i < S.length
    · have hs : S[i]? = some S[i] := List.getElem?_eq_getElem h9
      have hs2 : (S ++ mx_rows S.length t t0 n.toNatClampNeg k.toNatClampNeg)[i]? = some S[i] := by rw [List.getElem?_append_left h9]; exact hs
      rw [mx_ws_at hs2] at hq
      cases hq
      have e2 : mx_zs D S.length i = D i := by unfold mx_zs; rw [if_neg (by omega)]
      rw [e2]
      exact (hH.2 i _ (mx_ws_at hs)).kept (hold _ (by show mx_base G + i < H.size; omega))
    · have e2 : mx_zs D S.length i = fun _ => 0 := by unfold mx_zs; rw [if_pos (by omega)]
      by_cases h8 : i = S.length
      · subst h8
        have hs2 : (S ++ mx_rows S.length t t0 n.toNatClampNeg k.toNatClampNeg)[S.length]? = some (.inr (.inr (t, (List.range n.toNatClampNeg).map fun i => some (S.length + 1 + i)))) := by rw [List.getElem?_append_right (Nat.le_refl _)]; simp [mx_rows]
        rw [mx_ws_at hs2] at hq
        cases hq
        show F.heap[mx_base G + S.length]? = some _
        rw [← hsz, f2]
        refine congrArg some ?_
        show arrV (mx_cA G t) n.toNatClampNeg _ = vp_cell (mx_cA G t) (((List.range n.toNatClampNeg).map fun i => some (S.length + 1 + i)).length, _)
        rw [vp_cell_q, List.length_map, List.length_range]
        refine congrArg (arrV (mx_cA G t) n.toNatClampNeg) (funext fun j => ?_)
        refine congrArg va_rf ?_
        by_cases hj : j < n.toNatClampNeg
        · rw [if_pos hj]
          simp [hj, mx_ad, hsz]
          omega
        · rw [if_neg hj]
          simp [hj]
      · obtain ⟨j, rfl⟩ : ∃ j, i = S.length + 1 + j := ⟨i - S.length - 1, by omega⟩
        have hs2 : (S ++ mx_rows S.length t t0 n.toNatClampNeg k.toNatClampNeg)[S.length + 1 + j]? = some (.inr (.inl (t0, k.toNatClampNeg))) := by
          rw [List.getElem?_append_right (by omega), show S.length + 1 + j - S.length = j + 1 by omega]
          unfold mx_rows
          rw [List.getElem?_cons_succ, List.getElem?_replicate, if_pos (by omega)]
        rw [mx_ws_at hs2, e2] at hq
        cases hq
        show F.heap[mx_base G + (S.length + 1 + j)]? = some _
        rw [show mx_base G + (S.length + 1 + j) = H.size + 1 + j by omega, hrow j (by omega)]
        refine congrArg some ?_
        show mn_r (mx_cA G t0) k.toNatClampNeg = vp_cell (mx_cA G t0) (k.toNatClampNeg, .inl fun _ => 0)
        rw [vp_cell_i]
        rfl
  have K := kk.2 p e R s m args below meth c F.heap locs (cells + 1 + n.toNatClampNeg) (slots + n.toNatClampNeg + n.toNatClampNeg * k.toNatClampNeg) Q ls cx' ⟨by rw [f1, List.length_append, mx_rows_len]; omega, hP1⟩ (mx_ST hS ⟨by rw [f1]; omega, fun q hq _ => hold q hq, hS.2.2⟩) hlv (by rw [List.length_append, mx_rows_len]; omega) (by rw [List.length_append, mx_rows_len]; omega) (by rw [mx_sl_ap, mx_rows_sl]; omega) (fun rv' D' H' locs' pc' ls' q1 q2 q3 q4 => by
    have := hr rv' D' H' locs' pc' ls' q1 q2 q3 q4
    rw [mx_sl_ap, List.length_append, mx_rows_len, mx_rows_sl]
    rw [show cells + 1 + n.toNatClampNeg + (S'.length - (S.length + (n.toNatClampNeg + 1))) = cells + (S'.length - S.length) by omega, show slots + n.toNatClampNeg + n.toNatClampNeg * k.toNatClampNeg + (mx_sl S' - (mx_sl S + (n.toNatClampNeg + n.toNatClampNeg * k.toNatClampNeg))) = slots + (mx_sl S' - mx_sl S) by omega]
    exact this)
  obtain ⟨t9, a1, b1⟩ := K F rfl X'
  refine ⟨t9, step t9 ?_, b1⟩
  have e9 : T.heap.size = mx_ad G S.length := by rw [hT]; exact hsz
  rw [e9]
  exact a1
theorem EV.mnaL {idx t t0 N K a : Nat} {n k : Int32} {S2 : List mx_Sh} (ha : S.length = a) (hS2 : S ++ mx_rows a t t0 N K = S2) (ht : mx_ty[t]? = some (.array .int)) (ht0 : mx_ty[t0]? = some .int) (hl : Cond.classLink M.1.cls idx ("[" ++ (FieldType.array .int).toString) ∈ mx_gw) (hac : Cond.arrayClass .int ∈ mx_gw) (hn : ¬ n < 0) (hk : ¬ k < 0) (hN : n.toNatClampNeg = N) (hKK : k.toNatClampNeg = K) (hb1 : N * 4 ≤ 536870912) (hb2 : K * componentBytes .int ≤ 536870912) (hb3 : K ≤ 536870912) (hd : decode M.2.1 pc = .ok (.multianewarray idx 2, 4)) (kk : EV G d M (pc + 4) lc (.ref a :: st) S2 (mx_zs D a) S' Post) : EV G d M pc lc (.int k :: .int n :: st) S D S' Post := by
  subst ha hS2
  exact EV.mna ht ht0 hl hac hn hk hN hKK hb1 hb2 hb3 hd kk
theorem EV.shp {S2 : List mx_Sh} (h : S = S2) (kk : EV G d M pc lc st S2 D S' Post) : EV G d M pc lc st S D S' Post := by
  subst h
  exact kk
theorem EV.newL {idx ci a : Nat} {q : vw_C} {fs : List (Option (Option Nat))} {S2 : List mx_Sh} (ha : S.length = a) (hS2 : S ++ [.inl (ci, fs)] = S2) (hq : vwCl[ci]? = some q) (hl : Cond.classLink M.1.cls idx q.1 ∈ mx_gw ∧ Cond.instantiable q.1 q.2.2 ∈ mx_gw ∧ Cond.initialized q.1 ∈ mx_gw) (hfs : fs.length = q.2.2 ∧ ∀ j, j < q.2.2 → defaultValue ((parseFieldDescriptor (q.2.1 j).2.2.1).getD .int) = mx_rd 0 (fs.getD j none)) (hd : decode M.2.1 pc = .ok (.new idx, 3)) (kk : EV G d M (pc + 3) lc (.ref a :: st) S2 (mx_z D a) S' Post) : EV G d M pc lc st S D S' Post := by
  subst ha hS2
  exact EV.new hq hl hfs hd kk
theorem EV.newaL {t N a : Nat} {atype : ArrayType} {ty : FieldType} {n : Int32} {S2 : List mx_Sh} (ha : S.length = a) (hS2 : S ++ [.inr (.inl (t, N))] = S2) (hty : newarray.typeOf atype = ty) (ht : mx_ty[t]? = some ty) (hac : Cond.arrayClass ty ∈ mx_gw) (hdv : defaultValue ty = .int 0) (hn : ¬ n < 0) (hN : n.toNatClampNeg = N) (hb : N * componentBytes ty ≤ 536870912) (hd : decode M.2.1 pc = .ok (.newarray atype, 2)) (kk : EV G d M (pc + 2) lc (.ref a :: st) S2 (mx_z D a) S' Post) : EV G d M pc lc (.int n :: st) S D S' Post := by
  subst ha hS2
  exact EV.newa hty ht hac hdv hn hN hb hd kk
theorem EV.anewL {idx t N a : Nat} {C : String} {n : Int32} {S2 : List mx_Sh} (ha : S.length = a) (hS2 : S ++ [.inr (.inr (t, List.replicate N none))] = S2) (ht : mx_ty[t]? = some (.object C)) (hl : Cond.classLink M.1.cls idx C ∈ mx_gw) (hao : C ∈ mx_ao) (hn : ¬ n < 0) (hN : n.toNatClampNeg = N) (hb : N * 4 ≤ 536870912) (hd : decode M.2.1 pc = .ok (.anewarray idx, 3)) (kk : EV G d M (pc + 3) lc (.ref a :: st) S2 (mx_z D a) S' Post) : EV G d M pc lc (.int n :: st) S D S' Post := by
  subst ha hS2
  exact EV.anew ht hl hao hn hN hb hd kk
end MNA
