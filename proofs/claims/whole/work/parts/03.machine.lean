/-! THE MACHINE IN SMALL: cells are numbered from the law's start on; numbers lie in one memory (cell, place), references in a shape.
EV G d M pc lc st S D S' Post: from pc of method M, with locals lc, stack st, shape S, memory D, call depth d left, the method returns, its answer and memory meet Post, and the shape is S'. -/
abbrev mx_Sh : Type := (Nat × List (Option (Option Nat))) ⊕ ((Nat × Nat) ⊕ (Nat × List (Option Nat)))
abbrev mx_Mem : Type := Nat → Nat → Int32
abbrev mx_G : Type := Launch × va_G × (Nat → ClassId) × Nat × Nat × Nat × (Nat → Int32)
def mx_dd (G : mx_G) : va_G := G.2.1
def mx_cA (G : mx_G) : Nat → ClassId := G.2.2.1
def mx_base (G : mx_G) : Nat := G.2.2.2.1
def mx_b (G : mx_G) : Nat := G.2.2.2.2.1
def mx_L (G : mx_G) : Nat := G.2.2.2.2.2.1
def mx_xs (G : mx_G) : Nat → Int32 := G.2.2.2.2.2.2
def mx_ad (G : mx_G) (k : Nat) : Nat := mx_base G + k
/-- a small value as the machine has it; the script is retAddr -/
def mx_cv (G : mx_G) : Value → Value
  | .ref k => .ref (mx_ad G k)
  | .retAddr _ => .ref (mx_b G)
  | v => v
def mx_fv (G : mx_G) (x : Int32) : Option (Option Nat) → Value
  | none => .int x
  | some r => va_rf (r.map (mx_ad G))
def mx_E (G : mx_G) (f : Nat → Int32) : mx_Sh → va_E
  | .inl o => .inr (o.1, (List.range o.2.length).map fun j => mx_fv G (f j) (o.2.getD j none))
  | .inr (.inl a) => .inl (mx_cA G a.1, a.2, .inl f)
  | .inr (.inr a) => .inl (mx_cA G a.1, a.2.length, .inr (.inr (.inr (.inr fun j => (a.2.getD j none).map (mx_ad G)))))
def mx_ws (G : mx_G) (S : List mx_Sh) (D : mx_Mem) : va_W := (List.range S.length).map fun k => (mx_ad G k, mx_E G (D k) (S.getD k (.inr (.inl (0, 0)))))
def mx_n (sh : mx_Sh) : Nat := match sh with
  | .inl o => o.2.length
  | .inr (.inl a) => a.2
  | .inr (.inr a) => a.2.length
def mx_sl (S : List mx_Sh) : Nat := (S.map mx_n).sum
def mx_tys (G : mx_G) : List (ClassId × FieldType) := (List.range mx_ty.length).map fun t => (mx_cA G t, mx_ty.getD t .int)
def mx_A (G : mx_G) : Nat → Prop := fun q => mx_base G ≤ q
def mx_H (G : mx_G) (S : List mx_Sh) (D : mx_Mem) (H : Heap) : Prop := H.size = mx_base G + S.length ∧ va_P (mx_dd G) vwCl (mx_ws G S D) H
/-- one number of the memory written -/
def mx_w (D : mx_Mem) (k j : Nat) (x : Int32) : mx_Mem := va_up D k (upd (D k) j x)
/-- a new cell's numbers are 0 -/
def mx_z (D : mx_Mem) (k : Nat) : mx_Mem := va_up D k (fun _ => 0)
theorem mx_w_at (D : mx_Mem) (k j : Nat) (x : Int32) (k' j' : Nat) : mx_w D k j x k' j' = if k' = k ∧ j' = j then x else D k' j' := by
  unfold mx_w va_up
  by_cases h : k' = k
  · subst h
    by_cases h2 : j' = j
    · subst h2; simp [upd]
    · simp [upd, h2]
  · simp [h]
theorem mx_ws_at {G : mx_G} {S : List mx_Sh} {D : mx_Mem} {k : Nat} {sh : mx_Sh} (h : S[k]? = some sh) : (mx_ws G S D)[k]? = some (mx_ad G k, mx_E G (D k) sh) := by
  obtain ⟨hk, he⟩ := List.getElem?_eq_some_iff.mp h
  simp [mx_ws, hk, he]
theorem mx_wsk {G : mx_G} {S : List mx_Sh} {D : mx_Mem} {k : Nat} {q : Nat × va_E} (h : (mx_ws G S D)[k]? = some q) : k < S.length ∧ q.1 = mx_ad G k := by
  have hk : k < (mx_ws G S D).length := (List.getElem?_eq_some_iff.mp h).1
  have hk2 : k < S.length := by simpa [mx_ws] using hk
  obtain ⟨sh, hs⟩ : ∃ sh, S[k]? = some sh := ⟨S[k], List.getElem?_eq_getElem hk2⟩
  rw [mx_ws_at hs] at h
  cases h
  exact ⟨hk2, rfl⟩
theorem mx_DD {G : mx_G} {S : List mx_Sh} {D : mx_Mem} : va_D (mx_A G) (mx_ws G S D) := by
  refine ⟨fun i j p q hi hj e => ?_, fun k q hk => ?_⟩
  · obtain ⟨h1, e1⟩ := mx_wsk hi
    obtain ⟨h2, e2⟩ := mx_wsk hj
    rw [e1, e2] at e
    unfold mx_ad at e
    omega
  · obtain ⟨h1, e1⟩ := mx_wsk hk
    show mx_base G ≤ q.1
    rw [e1]
    unfold mx_ad
    omega
theorem mx_set {G : mx_G} {S : List mx_Sh} {D : mx_Mem} {k : Nat} {sh sh' : mx_Sh} {f : Nat → Int32} (h : S[k]? = some sh) : (mx_ws G S D).set k (mx_ad G k, mx_E G f sh') = mx_ws G (S.set k sh') (va_up D k f) := by
  have hk : k < S.length := (List.getElem?_eq_some_iff.mp h).1
  apply List.ext_getElem?
  intro i
  by_cases hi : i = k
  · subst hi
    rw [mx_ws_at (sh := sh') (by simp [hk])]
    simp [mx_ws, hk, va_up]
  · rw [List.getElem?_set_ne (Ne.symm hi)]
    by_cases hl : i < S.length
    · have h1 : S[i]? = some S[i] := List.getElem?_eq_getElem hl
      rw [mx_ws_at h1, mx_ws_at (sh := S[i]) (by rw [List.getElem?_set_ne (Ne.symm hi)]; exact h1)]
      simp [va_up, hi]
    · rw [List.getElem?_eq_none (by simp [mx_ws]; omega), List.getElem?_eq_none (by simp [mx_ws]; omega)]
theorem mx_push {G : mx_G} {S : List mx_Sh} {D : mx_Mem} {sh : mx_Sh} {f : Nat → Int32} : mx_ws G S D ++ [(mx_ad G S.length, mx_E G f sh)] = mx_ws G (S ++ [sh]) (va_up D S.length f) := by
  apply List.ext_getElem?
  intro i
  by_cases hl : i < S.length
  · have h1 : S[i]? = some S[i] := List.getElem?_eq_getElem hl
    rw [List.getElem?_append_left (by simp [mx_ws]; exact hl), mx_ws_at h1, mx_ws_at (sh := S[i]) (by rw [List.getElem?_append_left hl]; exact h1)]
    simp [va_up, Nat.ne_of_lt hl]
  · by_cases he : i = S.length
    · subst he
      rw [List.getElem?_append_right (by simp [mx_ws]), mx_ws_at (sh := sh) (by simp)]
      simp [mx_ws, va_up]
    · rw [List.getElem?_eq_none (by simp [mx_ws]; omega), List.getElem?_eq_none (by simp [mx_ws]; omega)]
theorem mx_setS {S : List mx_Sh} {k : Nat} {sh : mx_Sh} (h : S[k]? = some sh) : S.set k sh = S := by
  apply List.ext_getElem?
  intro i
  by_cases hi : i = k
  · subst hi
    rw [List.getElem?_set_self (List.getElem?_eq_some_iff.mp h).1, h]
  · rw [List.getElem?_set_ne (Ne.symm hi)]
/-- locals: a place that holds nothing known is none -/
def mx_lv (G : mx_G) (lc : List (Option Value)) : List (Nat × Value) := (List.range lc.length).filterMap fun i => (lc.getD i none).bind fun v => if v.category = 1 then some (i, mx_cv G v) else none
theorem mx_lv_mem {G : mx_G} {lc : List (Option Value)} {q : Nat × Value} : q ∈ mx_lv G lc ↔ ∃ v, lc[q.1]? = some (some v) ∧ v.category = 1 ∧ q.2 = mx_cv G v := by
  unfold mx_lv
  rw [List.mem_filterMap]
  constructor
  · rintro ⟨i, hi, h⟩
    have hi : i < lc.length := by simpa using hi
    have e : lc.getD i none = lc[i] := by simp [hi]
    rw [e] at h
    cases hv : lc[i] with
    | none => rw [hv] at h; cases h
    | some v =>
      rw [hv, Option.bind_some] at h
      by_cases hc : v.category = 1
      · rw [if_pos hc] at h
        cases h
        exact ⟨v, by rw [List.getElem?_eq_getElem hi, hv], hc, rfl⟩
      · rw [if_neg hc] at h
        cases h
  · rintro ⟨v, h1, hc, h2⟩
    have hi : q.1 < lc.length := (List.getElem?_eq_some_iff.mp h1).1
    refine ⟨q.1, by simpa using hi, ?_⟩
    have e : lc.getD q.1 none = some v := by simp [h1]
    rw [e, Option.bind_some, if_pos hc, ← h2]
theorem mx_lv_sub {ls : Array Slot} {n : Nat} {l l' : List (Nat × Value)} (h : lv_has ls n l) (hs : ∀ q ∈ l', q ∈ l) : lv_has ls n l' := ⟨h.1, h.2.1, fun q hq => h.2.2 q (hs q hq)⟩
theorem mx_lv_at {G : mx_G} {ls : Array Slot} {n : Nat} {lc : List (Option Value)} {i : Nat} {v : Value} (h : lv_has ls n (mx_lv G lc)) (hi : lc[i]? = some (some v)) (hc : v.category = 1) : ls[i]? = some (.val (mx_cv G v)) := h.2.2 (i, mx_cv G v) (mx_lv_mem.mpr ⟨v, hi, hc, rfl⟩)
theorem mx_cv_cat {G : mx_G} {v : Value} : (mx_cv G v).category = v.category := by cases v <;> rfl
theorem mx_lv_put {G : mx_G} {ls : Array Slot} {n i : Nat} {lc : List (Option Value)} {v : Value} (h : lv_has ls n ((i, mx_cv G v) :: (mx_lv G lc).filter (fun q => !(q.1 == i) && !(q.1 + 1 == i && q.2.category == 2)))) : lv_has ls n (mx_lv G (lc.set i (some v))) := by
  refine mx_lv_sub h fun q hq => ?_
  obtain ⟨w, h1, hc, h2⟩ := mx_lv_mem.mp hq
  by_cases hi : q.1 = i
  · rw [hi] at h1
    have hl : i < lc.length := by
      have := (List.getElem?_eq_some_iff.mp h1).1
      simpa using this
    rw [List.getElem?_set_self hl] at h1
    cases h1
    have : q = (i, mx_cv G v) := by rw [← hi, ← h2]
    rw [this]
    exact List.mem_cons_self
  · rw [List.getElem?_set_ne (Ne.symm hi)] at h1
    refine List.mem_cons_of_mem _ (List.mem_filter.mpr ⟨mx_lv_mem.mpr ⟨w, h1, hc, h2⟩, ?_⟩)
    have hcat : q.2.category = 1 := by rw [h2, mx_cv_cat]; exact hc
    simp [hi, hcat]
theorem mx_cls0 : ∀ q ∈ vwCl, (∀ w ∈ u_ws q.1 q.2.1 q.2.2, w ∈ mx_gw) ∧ (∀ k, k < q.2.2 → parseFieldDescriptor (q.2.1 k).2.2.1 = some ((parseFieldDescriptor (q.2.1 k).2.2.1).getD .int)) ∧ ∀ a, a < q.2.2 → ∀ b, b < q.2.2 → a ≠ b → (q.2.1 a).2.1 ≠ (q.2.1 b).2.1 := by decide +kernel
theorem mx_nw_on {w : Cond} (h : w ∈ mx_nw) : w.onTables = true ∧ ∀ s U : State, s.WarmedH U.vm → va_Nw w s → va_Nw w U := by
  have h2 := (List.mem_filter.mp h).2
  unfold mx_isn at h2
  cases w <;> simp at h2
  · exact ⟨rfl, fun s U hW hZ => va_Nw.warmM hW hZ⟩
  · exact ⟨rfl, fun s U hW hZ => va_Nw.warmF hW hZ⟩
theorem mx_AA_spec {s : State} (h : mx_AA s) : ∃ comp c k, s.vm.findClass (FieldType.array .int).toString = some comp ∧ (s.vm.classes.findIdx? fun (x : Class) => match x.kind with | .array component _ => component == comp | _ => false) = some c ∧ s.vm.classes[c]? = some k ∧ k.kind = .array comp (.array .int) ∧ s.vm.findClass ("[" ++ (FieldType.array .int).toString) = some c := by
  unfold mx_AA Cond.before at h
  simp only [Cond.holds, Cond.value, beq_iff_eq] at h
  cases hc : s.vm.findClass (FieldType.array .int).toString with
  | none => simp [hc] at h
  | some comp =>
    simp only [hc, Option.bind_some, Option.bind_eq_some_iff, Option.map_eq_some_iff] at h
    obtain ⟨c, hi, k, hk, hb⟩ := h
    obtain ⟨hlt, hp, -⟩ := Array.findIdx?_eq_some_iff_getElem.mp hi
    have hkk : s.vm.classes[c] = k := (Array.getElem?_eq_some_iff.mp hk).2
    rw [hkk] at hp
    cases hkind : k.kind with
    | array component ty =>
      rw [hkind] at hb hp
      simp at hb hp
      exact ⟨comp, c, k, rfl, hi, hk, by rw [hkind, hp, hb.1], hb.2⟩
    | _ => rw [hkind] at hb; simp at hb
theorem mx_AA_moved {u U : State} (hvm : u.vm.Alike U.vm) (h : mx_AA u) : mx_AA U := by
  obtain ⟨comp, c, k, h1, h2, h3, h4, h5⟩ := mx_AA_spec h
  obtain ⟨k', hk', he⟩ := hvm.2.2 _ _ h3
  have hi : (U.vm.classes.findIdx? fun (x : Class) => match x.kind with | .array component _ => component == comp | _ => false) = some c := by
    refine (va_idx_bare U.vm comp).symm.trans ?_
    first | rw [hvm.bare_eq] | rw [← hvm.bare_eq]
    exact (va_idx_bare u.vm comp).trans h2
  have hkind : k'.kind = .array comp (.array .int) := by rw [he]; exact h4
  have f1 : U.vm.findClass (FieldType.array .int).toString = some comp := by rw [hvm.findClass]; exact h1
  have f2 : U.vm.findClass ("[" ++ (FieldType.array .int).toString) = some c := by rw [hvm.findClass]; exact h5
  unfold mx_AA Cond.before Cond.holds
  simp only [Cond.value]
  rw [f1, Option.bind_some]
  refine (congrArg (fun o : Option Nat => (o.bind (fun c => (U.vm.classes[c]?).map fun (k : Class) => match k.kind with | .array _ ty => decide (ty = FieldType.array .int) && decide (U.vm.findClass ("[" ++ (FieldType.array .int).toString) = some c) | _ => false) == some true)) hi).trans ?_
  simp [hk', hkind, f2]
theorem mx_NW_same {u U : State} (h : u.vm = U.vm) (hN : mx_NW u) : mx_NW U :=
  ⟨fun w hw => va_Nw.same (mx_nw_on hw).1 h (hN.1 w hw), fun C hC => va_AO.moved (by rw [h]; exact Vm.Alike.refl _) (hN.2.1 C hC), mx_AA_moved (by rw [h]; exact Vm.Alike.refl _) hN.2.2⟩
theorem mx_NW_warm {s U : State} (h : s.WarmedH U.vm) (hN : mx_NW s) : mx_NW U :=
  ⟨fun w hw => (mx_nw_on hw).2 s U h (hN.1 w hw), fun C hC => va_AO.moved h.alike (hN.2.1 C hC), mx_AA_moved h.alike hN.2.2⟩
/-- what holds of the machine while method M runs -/
def mx_Cx (G : mx_G) (d : Nat) (M : mx_M) (p : Program) (R : Room) (s : State) (m : MethodId) (args : Array Value) (meth : Method) (c : Code) : Prop :=
  p.tables.exec = Jvm.exec ∧ c.code = M.2.1 ∧ meth.sig.returnType = M.2.2.2 ∧ c.maxLocals = M.2.2.1 ∧ s.vm.findClass M.1.cls = some m.cls ∧ (∀ w ∈ mx_gw, w.before args s = true) ∧ mx_NW s ∧ va_K (mx_dd G) vwCl (mx_tys G) s ∧ meth.locks = false ∧ meth.name = M.1.name ∧ (va_X (mx_b G) (mx_L G) (mx_xs G) s s.heap ∧ mx_b G < mx_base G ∧ mx_base G ≤ s.heap.size) ∧ d ≤ R.frames ∧ mx_KL * d ≤ R.locals
/-- the instruction with which the answer goes back -/
def mx_ret (M : mx_M) (pc : Nat) : Option Value → Prop
  | none => decode M.2.1 pc = .ok (.return_, 1) ∧ M.2.2.2 = none
  | some (.int v) => decode M.2.1 pc = .ok (.ireturn, 1) ∧ ∃ ty, M.2.2.2 = some ty ∧ narrow ty (.int v) = .int v
  | some (.ref _) => decode M.2.1 pc = .ok (.areturn, 1) ∧ ∃ n, M.2.2.2 = some (.object n)
  | _ => False
def EV (G : mx_G) (d : Nat) (M : mx_M) (pc : Nat) (lc : List (Option Value)) (st : List Value) (S : List mx_Sh) (D : mx_Mem) (S' : List mx_Sh) (Post : Option Value → mx_Mem → Prop) : Prop :=
  (S.length ≤ S'.length ∧ mx_sl S ≤ mx_sl S') ∧
  ∀ (p : Program) (e : Env) (R : Room) (s : State) (m : MethodId) (args : Array Value) (below : List Frame) (meth : Method) (c : Code) (H : Heap) (locs : List Loc) (cells slots : Nat) (Q : State → Prop) (ls : Array Slot),
    mx_Cx G d M p R s m args meth c → mx_H G S D H → va_S (mx_A G) s.heap H locs → lv_has ls M.2.2.1 (mx_lv G lc) → s.heap.size + cells = mx_base G + S.length → cells + S'.length ≤ R.cells + S.length → slots + mx_sl S' ≤ R.slots + mx_sl S →
    (∀ (rv : Option Value) (D' : mx_Mem) (H' : Heap) (locs' : List Loc) (pc' : Nat) (ls' : Array Slot), Post rv D' → mx_H G S' D' H' → va_S (mx_A G) s.heap H' locs' → mx_ret M pc' rv →
      W p G.1 e R s m args below meth c H' locs' (cells + (S'.length - S.length)) (slots + (mx_sl S' - mx_sl S)) Q (F0 m pc' ls' (rv.map (mx_cv G)).toList)) →
    W p G.1 e R s m args below meth c H locs cells slots Q (F0 m pc ls (st.map (mx_cv G)))
section MXR
variable {G : mx_G} {d : Nat} {M : mx_M} {pc : Nat} {lc : List (Option Value)} {st : List Value} {S S' : List mx_Sh} {D : mx_Mem} {Post : Option Value → mx_Mem → Prop}
/-- an instruction that touches the stack alone -/
theorem EV.go {pc2 : Nat} {st2 : List Value} (h : ∀ {p : Program} {e : Env} {R : Room} {s : State} {m : MethodId} {args : Array Value} {below : List Frame} {meth : Method} {c : Code} {H : Heap} {locs : List Loc} {cells slots : Nat} {Q : State → Prop} {ls : Array Slot}, p.tables.exec = Jvm.exec → c.code = M.2.1 →
    W p G.1 e R s m args below meth c H locs cells slots Q (F0 m pc2 ls (st2.map (mx_cv G))) → W p G.1 e R s m args below meth c H locs cells slots Q (F0 m pc ls (st.map (mx_cv G))))
    (k : EV G d M pc2 lc st2 S D S' Post) : EV G d M pc lc st S D S' Post :=
  ⟨k.1, fun p e R s m args below meth c H locs cells slots Q ls cx hH hS hl h0 h1 h2 hr => h cx.1 cx.2.1 (k.2 p e R s m args below meth c H locs cells slots Q ls cx hH hS hl h0 h1 h2 hr)⟩
theorem EV.iconst {n : Int} {v : Int32} (hd : decode M.2.1 pc = .ok (.iconst n, 1)) (hv : Int32.ofInt n = v) (k : EV G d M (pc + 1) lc (.int v :: st) S D S' Post) : EV G d M pc lc st S D S' Post :=
  EV.go (fun hx hb k => lv_iconst hx hb hd hv k) k
theorem EV.bipush {n : Int} {v : Int32} (hd : decode M.2.1 pc = .ok (.bipush n, 2)) (hv : (Int8.ofInt n).toInt32 = v) (k : EV G d M (pc + 2) lc (.int v :: st) S D S' Post) : EV G d M pc lc st S D S' Post :=
  EV.go (fun hx hb k => lv_bipush hx hb hd hv k) k
theorem EV.sipush {n : Int} {v : Int32} (hd : decode M.2.1 pc = .ok (.sipush n, 3)) (hv : (Int16.ofInt n).toInt32 = v) (k : EV G d M (pc + 3) lc (.int v :: st) S D S' Post) : EV G d M pc lc st S D S' Post :=
  EV.go (fun hx hb k => lv_sipush hx hb hd hv k) k
theorem EV.iadd {x y : Int32} (hd : decode M.2.1 pc = .ok (.iadd, 1)) (k : EV G d M (pc + 1) lc (.int (x + y) :: st) S D S' Post) : EV G d M pc lc (.int y :: .int x :: st) S D S' Post :=
  EV.go (fun hx hb k => lv_iadd hx hb hd k) k
theorem EV.isub {x y : Int32} (hd : decode M.2.1 pc = .ok (.isub, 1)) (k : EV G d M (pc + 1) lc (.int (x - y) :: st) S D S' Post) : EV G d M pc lc (.int y :: .int x :: st) S D S' Post :=
  EV.go (fun hx hb k => lv_isub hx hb hd k) k
theorem EV.imul {x y : Int32} (hd : decode M.2.1 pc = .ok (.imul, 1)) (k : EV G d M (pc + 1) lc (.int (x * y) :: st) S D S' Post) : EV G d M pc lc (.int y :: .int x :: st) S D S' Post :=
  EV.go (fun hx hb k => lv_imul hx hb hd k) k
theorem EV.iand {x y : Int32} (hd : decode M.2.1 pc = .ok (.iand, 1)) (k : EV G d M (pc + 1) lc (.int (x &&& y) :: st) S D S' Post) : EV G d M pc lc (.int y :: .int x :: st) S D S' Post :=
  EV.go (fun hx hb k => lv_iand hx hb hd k) k
theorem EV.ior {x y : Int32} (hd : decode M.2.1 pc = .ok (.ior, 1)) (k : EV G d M (pc + 1) lc (.int (x ||| y) :: st) S D S' Post) : EV G d M pc lc (.int y :: .int x :: st) S D S' Post :=
  EV.go (fun hx hb k => lv_ior hx hb hd k) k
theorem EV.ishl {x y : Int32} (hd : decode M.2.1 pc = .ok (.ishl, 1)) (k : EV G d M (pc + 1) lc (.int (x <<< (y &&& 31)) :: st) S D S' Post) : EV G d M pc lc (.int y :: .int x :: st) S D S' Post :=
  EV.go (fun hx hb k => lv_ishl hx hb hd k) k
theorem EV.ishr {x y : Int32} (hd : decode M.2.1 pc = .ok (.ishr, 1)) (k : EV G d M (pc + 1) lc (.int (x >>> (y &&& 31)) :: st) S D S' Post) : EV G d M pc lc (.int y :: .int x :: st) S D S' Post :=
  EV.go (fun hx hb k => lv_ishr hx hb hd k) k
theorem EV.irem {x y : Int32} (hd : decode M.2.1 pc = .ok (.irem, 1)) (hy : ¬ y = 0) (k : EV G d M (pc + 1) lc (.int (x - x / y * y) :: st) S D S' Post) : EV G d M pc lc (.int y :: .int x :: st) S D S' Post :=
  EV.go (fun hx hb k => lv_irem hx hb hd hy k) k
theorem EV.ineg {x : Int32} (hd : decode M.2.1 pc = .ok (.ineg, 1)) (k : EV G d M (pc + 1) lc (.int (-x) :: st) S D S' Post) : EV G d M pc lc (.int x :: st) S D S' Post :=
  EV.go (fun hx hb k => lv_ineg hx hb hd k) k
theorem EV.i2c {x v : Int32} (hd : decode M.2.1 pc = .ok (.i2c, 1)) (hv : (x.toUInt32 % 65536).toInt32 = v) (k : EV G d M (pc + 1) lc (.int v :: st) S D S' Post) : EV G d M pc lc (.int x :: st) S D S' Post :=
  EV.go (fun hx hb k => lv_i2c hx hb hd hv k) k
theorem EV.dup {v : Value} (hd : decode M.2.1 pc = .ok (.dup, 1)) (hv : v.category = 1) (k : EV G d M (pc + 1) lc (v :: v :: st) S D S' Post) : EV G d M pc lc (v :: st) S D S' Post :=
  EV.go (fun hx hb k => lv_dup hx hb hd (by rw [mx_cv_cat]; exact hv) k) k
theorem EV.pop {v : Value} (hd : decode M.2.1 pc = .ok (.pop, 1)) (hv : v.category = 1) (k : EV G d M (pc + 1) lc st S D S' Post) : EV G d M pc lc (v :: st) S D S' Post :=
  EV.go (fun hx hb k => lv_pop hx hb hd (by rw [mx_cv_cat]; exact hv) k) k
theorem EV.dup_x1 {v w : Value} (hd : decode M.2.1 pc = .ok (.dup_x1, 1)) (hv : v.category = 1) (hw : w.category = 1) (k : EV G d M (pc + 1) lc (v :: w :: v :: st) S D S' Post) : EV G d M pc lc (v :: w :: st) S D S' Post :=
  EV.go (fun hx hb k => lv_dup_x1 hx hb hd (by rw [mx_cv_cat]; exact hv) (by rw [mx_cv_cat]; exact hw) k) k
theorem EV.dup_x2 {v w u : Value} (hd : decode M.2.1 pc = .ok (.dup_x2, 1)) (hv : v.category = 1) (hw : w.category = 1) (hu : u.category = 1) (k : EV G d M (pc + 1) lc (v :: w :: u :: v :: st) S D S' Post) : EV G d M pc lc (v :: w :: u :: st) S D S' Post :=
  EV.go (fun hx hb k => lv_dup_x2 hx hb hd (by rw [mx_cv_cat]; exact hv) (by rw [mx_cv_cat]; exact hw) (by rw [mx_cv_cat]; exact hu) k) k
theorem EV.dup2 {v w : Value} (hd : decode M.2.1 pc = .ok (.dup2, 1)) (hv : v.category = 1) (hw : w.category = 1) (k : EV G d M (pc + 1) lc (v :: w :: v :: w :: st) S D S' Post) : EV G d M pc lc (v :: w :: st) S D S' Post :=
  EV.go (fun hx hb k => lv_dup2_11 hx hb hd (by rw [mx_cv_cat]; exact hv) (by rw [mx_cv_cat]; exact hw) k) k
theorem EV.goto {off : Int} {tgt : Nat} (hd : decode M.2.1 pc = .ok (.goto off, 3)) (ht : (pc : Int) + off = (tgt : Int)) (k : EV G d M tgt lc st S D S' Post) : EV G d M pc lc st S D S' Post :=
  EV.go (fun hx hb k => lv_goto hx hb hd ht k) k
/-- a number on the stack under another name -/
theorem EV.top {x y : Int32} (h : x = y) (k : EV G d M pc lc (.int y :: st) S D S' Post) : EV G d M pc lc (.int x :: st) S D S' Post := h ▸ k
theorem EV.at {lc2 : List (Option Value)} (h : lc = lc2) (k : EV G d M pc lc2 st S D S' Post) : EV G d M pc lc st S D S' Post := h ▸ k
theorem EV.mem {D2 : mx_Mem} (h : D = D2) (k : EV G d M pc lc st S D2 S' Post) : EV G d M pc lc st S D S' Post := h ▸ k
/-- fewer locals known -/
theorem EV.wk {lc2 : List (Option Value)} (h : ∀ (i : Nat) (v : Value), lc2[i]? = some (some v) → lc[i]? = some (some v)) (k : EV G d M pc lc2 st S D S' Post) : EV G d M pc lc st S D S' Post :=
  ⟨k.1, fun p e R s m args below meth c H locs cells slots Q ls cx hH hS hl h0 h1 h2 hr => k.2 p e R s m args below meth c H locs cells slots Q ls cx hH hS (mx_lv_sub hl fun q hq => by
    obtain ⟨v, a1, a2, a3⟩ := mx_lv_mem.mp hq
    exact mx_lv_mem.mpr ⟨v, h _ _ a1, a2, a3⟩) h0 h1 h2 hr⟩
theorem EV.post {P2 : Option Value → mx_Mem → Prop} (h : ∀ rv D', P2 rv D' → Post rv D') (k : EV G d M pc lc st S D S' P2) : EV G d M pc lc st S D S' Post :=
  ⟨k.1, fun p e R s m args below meth c H locs cells slots Q ls cx hH hS hl h0 h1 h2 hr => k.2 p e R s m args below meth c H locs cells slots Q ls cx hH hS hl h0 h1 h2 (fun rv D' H' locs' pc' ls' hp => hr rv D' H' locs' pc' ls' (h rv D' hp))⟩
theorem EV.deep {d2 : Nat} (h : d2 ≤ d) (k : EV G d2 M pc lc st S D S' Post) : EV G d M pc lc st S D S' Post :=
  ⟨k.1, fun p e R s m args below meth c H locs cells slots Q ls cx => k.2 p e R s m args below meth c H locs cells slots Q ls (by
    obtain ⟨a1, a2, a3, a4, a5, a6, a7, a8, a9, a10, a11, a12, a13⟩ := cx
    exact ⟨a1, a2, a3, a4, a5, a6, a7, a8, a9, a10, a11, Nat.le_trans h a12, Nat.le_trans (Nat.mul_le_mul_left _ h) a13⟩)⟩
theorem EV.iload_n {n : Fin 4} {x : Int32} (hd : decode M.2.1 pc = .ok (.iload_n n, 1)) (h : lc[(n : Nat)]? = some (some (.int x))) (k : EV G d M (pc + 1) lc (.int x :: st) S D S' Post) : EV G d M pc lc st S D S' Post :=
  ⟨k.1, fun p e R s m args below meth c H locs cells slots Q ls cx hH hS hl h0 h1 h2 hr => lv_iload_n cx.1 cx.2.1 hd rfl (mx_lv_at hl h rfl) (k.2 p e R s m args below meth c H locs cells slots Q ls cx hH hS hl h0 h1 h2 hr)⟩
theorem EV.iload {n : Nat} {x : Int32} (hd : decode M.2.1 pc = .ok (.iload n, 2)) (h : lc[n]? = some (some (.int x))) (k : EV G d M (pc + 2) lc (.int x :: st) S D S' Post) : EV G d M pc lc st S D S' Post :=
  ⟨k.1, fun p e R s m args below meth c H locs cells slots Q ls cx hH hS hl h0 h1 h2 hr => lv_iload cx.1 cx.2.1 hd (mx_lv_at hl h rfl) (k.2 p e R s m args below meth c H locs cells slots Q ls cx hH hS hl h0 h1 h2 hr)⟩
theorem EV.aload_n {n : Fin 4} {x : Nat} (hd : decode M.2.1 pc = .ok (.aload_n n, 1)) (h : lc[(n : Nat)]? = some (some (.ref x))) (k : EV G d M (pc + 1) lc (.ref x :: st) S D S' Post) : EV G d M pc lc st S D S' Post :=
  ⟨k.1, fun p e R s m args below meth c H locs cells slots Q ls cx hH hS hl h0 h1 h2 hr => lv_aload_n cx.1 cx.2.1 hd rfl (mx_lv_at hl h rfl) (k.2 p e R s m args below meth c H locs cells slots Q ls cx hH hS hl h0 h1 h2 hr)⟩
theorem EV.aload {n : Nat} {x : Nat} (hd : decode M.2.1 pc = .ok (.aload n, 2)) (h : lc[n]? = some (some (.ref x))) (k : EV G d M (pc + 2) lc (.ref x :: st) S D S' Post) : EV G d M pc lc st S D S' Post :=
  ⟨k.1, fun p e R s m args below meth c H locs cells slots Q ls cx hH hS hl h0 h1 h2 hr => lv_aload cx.1 cx.2.1 hd (mx_lv_at hl h rfl) (k.2 p e R s m args below meth c H locs cells slots Q ls cx hH hS hl h0 h1 h2 hr)⟩
theorem EV.istore_n {n : Fin 4} {x : Int32} (hd : decode M.2.1 pc = .ok (.istore_n n, 1)) (hn : (n : Nat) < M.2.2.1) (k : EV G d M (pc + 1) (lc.set (n : Nat) (some (.int x))) st S D S' Post) : EV G d M pc lc (.int x :: st) S D S' Post :=
  ⟨k.1, fun p e R s m args below meth c H locs cells slots Q ls cx hH hS hl h0 h1 h2 hr => lv_istore_n cx.1 cx.2.1 hd rfl hl hn rfl (fun ls hl => k.2 p e R s m args below meth c H locs cells slots Q ls cx hH hS (mx_lv_put (v := .int x) hl) h0 h1 h2 hr)⟩
theorem EV.istore {n : Nat} {x : Int32} (hd : decode M.2.1 pc = .ok (.istore n, 2)) (hn : n < M.2.2.1) (k : EV G d M (pc + 2) (lc.set n (some (.int x))) st S D S' Post) : EV G d M pc lc (.int x :: st) S D S' Post :=
  ⟨k.1, fun p e R s m args below meth c H locs cells slots Q ls cx hH hS hl h0 h1 h2 hr => lv_istore cx.1 cx.2.1 hd hl hn rfl (fun ls hl => k.2 p e R s m args below meth c H locs cells slots Q ls cx hH hS (mx_lv_put (v := .int x) hl) h0 h1 h2 hr)⟩
theorem EV.astore_n {n : Fin 4} {x : Nat} (hd : decode M.2.1 pc = .ok (.astore_n n, 1)) (hn : (n : Nat) < M.2.2.1) (k : EV G d M (pc + 1) (lc.set (n : Nat) (some (.ref x))) st S D S' Post) : EV G d M pc lc (.ref x :: st) S D S' Post :=
  ⟨k.1, fun p e R s m args below meth c H locs cells slots Q ls cx hH hS hl h0 h1 h2 hr => lv_astore_n cx.1 cx.2.1 hd rfl hl hn rfl (fun ls hl => k.2 p e R s m args below meth c H locs cells slots Q ls cx hH hS (mx_lv_put (v := .ref x) hl) h0 h1 h2 hr)⟩
theorem EV.astore {n : Nat} {x : Nat} (hd : decode M.2.1 pc = .ok (.astore n, 2)) (hn : n < M.2.2.1) (k : EV G d M (pc + 2) (lc.set n (some (.ref x))) st S D S' Post) : EV G d M pc lc (.ref x :: st) S D S' Post :=
  ⟨k.1, fun p e R s m args below meth c H locs cells slots Q ls cx hH hS hl h0 h1 h2 hr => lv_astore cx.1 cx.2.1 hd hl hn rfl (fun ls hl => k.2 p e R s m args below meth c H locs cells slots Q ls cx hH hS (mx_lv_put (v := .ref x) hl) h0 h1 h2 hr)⟩
theorem EV.iinc {n : Nat} {z : Int} {x v : Int32} (hd : decode M.2.1 pc = .ok (.iinc n z, 3)) (h : lc[n]? = some (some (.int x))) (hv : x + Int32.ofInt z = v) (hn : n < M.2.2.1) (k : EV G d M (pc + 3) (lc.set n (some (.int v))) st S D S' Post) : EV G d M pc lc st S D S' Post :=
  ⟨k.1, fun p e R s m args below meth c H locs cells slots Q ls cx hH hS hl h0 h1 h2 hr => by
    obtain ⟨q, hq⟩ := List.getElem?_of_mem (mx_lv_mem (G := G) (q := (n, .int x)).mpr ⟨.int x, h, rfl, rfl⟩)
    exact lv_iinc cx.1 cx.2.1 hd hl hq hv hn rfl (fun ls hl => k.2 p e R s m args below meth c H locs cells slots Q ls cx hH hS (mx_lv_put (v := .int v) hl) h0 h1 h2 hr)⟩
theorem EV.if_eq {x : Int32} {off : Int} {tgt : Nat} (hd : decode M.2.1 pc = .ok (.ifCond .eq off, 3)) (ht : (pc : Int) + off = (tgt : Int)) (kt : x = 0 → EV G d M tgt lc st S D S' Post) (kf : ¬ x = 0 → EV G d M (pc + 3) lc st S D S' Post) : EV G d M pc lc (.int x :: st) S D S' Post :=
  ⟨(Classical.em (x = 0)).elim (fun h => (kt h).1) (fun h => (kf h).1), fun p e R s m args below meth c H locs cells slots Q ls cx hH hS hl h0 h1 h2 hr => lv_if_eq cx.1 cx.2.1 hd ht (fun h => (kt h).2 p e R s m args below meth c H locs cells slots Q ls cx hH hS hl h0 h1 h2 hr) (fun h => (kf h).2 p e R s m args below meth c H locs cells slots Q ls cx hH hS hl h0 h1 h2 hr)⟩
theorem EV.if_ne {x : Int32} {off : Int} {tgt : Nat} (hd : decode M.2.1 pc = .ok (.ifCond .ne off, 3)) (ht : (pc : Int) + off = (tgt : Int)) (kt : ¬ x = 0 → EV G d M tgt lc st S D S' Post) (kf : x = 0 → EV G d M (pc + 3) lc st S D S' Post) : EV G d M pc lc (.int x :: st) S D S' Post :=
  ⟨(Classical.em (x = 0)).elim (fun h => (kf h).1) (fun h => (kt h).1), fun p e R s m args below meth c H locs cells slots Q ls cx hH hS hl h0 h1 h2 hr => lv_if_ne cx.1 cx.2.1 hd ht (fun h => (kt h).2 p e R s m args below meth c H locs cells slots Q ls cx hH hS hl h0 h1 h2 hr) (fun h => (kf h).2 p e R s m args below meth c H locs cells slots Q ls cx hH hS hl h0 h1 h2 hr)⟩
theorem EV.if_lt {x : Int32} {off : Int} {tgt : Nat} (hd : decode M.2.1 pc = .ok (.ifCond .lt off, 3)) (ht : (pc : Int) + off = (tgt : Int)) (kt : x < 0 → EV G d M tgt lc st S D S' Post) (kf : ¬ x < 0 → EV G d M (pc + 3) lc st S D S' Post) : EV G d M pc lc (.int x :: st) S D S' Post :=
  ⟨(Classical.em (x < 0)).elim (fun h => (kt h).1) (fun h => (kf h).1), fun p e R s m args below meth c H locs cells slots Q ls cx hH hS hl h0 h1 h2 hr => lv_if_lt cx.1 cx.2.1 hd ht (fun h => (kt h).2 p e R s m args below meth c H locs cells slots Q ls cx hH hS hl h0 h1 h2 hr) (fun h => (kf h).2 p e R s m args below meth c H locs cells slots Q ls cx hH hS hl h0 h1 h2 hr)⟩
theorem EV.if_ge {x : Int32} {off : Int} {tgt : Nat} (hd : decode M.2.1 pc = .ok (.ifCond .ge off, 3)) (ht : (pc : Int) + off = (tgt : Int)) (kt : 0 ≤ x → EV G d M tgt lc st S D S' Post) (kf : ¬ 0 ≤ x → EV G d M (pc + 3) lc st S D S' Post) : EV G d M pc lc (.int x :: st) S D S' Post :=
  ⟨(Classical.em (0 ≤ x)).elim (fun h => (kt h).1) (fun h => (kf h).1), fun p e R s m args below meth c H locs cells slots Q ls cx hH hS hl h0 h1 h2 hr => lv_if_ge cx.1 cx.2.1 hd ht (fun h => (kt h).2 p e R s m args below meth c H locs cells slots Q ls cx hH hS hl h0 h1 h2 hr) (fun h => (kf h).2 p e R s m args below meth c H locs cells slots Q ls cx hH hS hl h0 h1 h2 hr)⟩
theorem EV.if_gt {x : Int32} {off : Int} {tgt : Nat} (hd : decode M.2.1 pc = .ok (.ifCond .gt off, 3)) (ht : (pc : Int) + off = (tgt : Int)) (kt : 0 < x → EV G d M tgt lc st S D S' Post) (kf : ¬ 0 < x → EV G d M (pc + 3) lc st S D S' Post) : EV G d M pc lc (.int x :: st) S D S' Post :=
  ⟨(Classical.em (0 < x)).elim (fun h => (kt h).1) (fun h => (kf h).1), fun p e R s m args below meth c H locs cells slots Q ls cx hH hS hl h0 h1 h2 hr => lv_if_gt cx.1 cx.2.1 hd ht (fun h => (kt h).2 p e R s m args below meth c H locs cells slots Q ls cx hH hS hl h0 h1 h2 hr) (fun h => (kf h).2 p e R s m args below meth c H locs cells slots Q ls cx hH hS hl h0 h1 h2 hr)⟩
theorem EV.if_le {x : Int32} {off : Int} {tgt : Nat} (hd : decode M.2.1 pc = .ok (.ifCond .le off, 3)) (ht : (pc : Int) + off = (tgt : Int)) (kt : x ≤ 0 → EV G d M tgt lc st S D S' Post) (kf : ¬ x ≤ 0 → EV G d M (pc + 3) lc st S D S' Post) : EV G d M pc lc (.int x :: st) S D S' Post :=
  ⟨(Classical.em (x ≤ 0)).elim (fun h => (kt h).1) (fun h => (kf h).1), fun p e R s m args below meth c H locs cells slots Q ls cx hH hS hl h0 h1 h2 hr => lv_if_le cx.1 cx.2.1 hd ht (fun h => (kt h).2 p e R s m args below meth c H locs cells slots Q ls cx hH hS hl h0 h1 h2 hr) (fun h => (kf h).2 p e R s m args below meth c H locs cells slots Q ls cx hH hS hl h0 h1 h2 hr)⟩
theorem EV.icmp_eq {x y : Int32} {off : Int} {tgt : Nat} (hd : decode M.2.1 pc = .ok (.if_icmp .eq off, 3)) (ht : (pc : Int) + off = (tgt : Int)) (kt : x = y → EV G d M tgt lc st S D S' Post) (kf : ¬ x = y → EV G d M (pc + 3) lc st S D S' Post) : EV G d M pc lc (.int y :: .int x :: st) S D S' Post :=
  ⟨(Classical.em (x = y)).elim (fun h => (kt h).1) (fun h => (kf h).1), fun p e R s m args below meth c H locs cells slots Q ls cx hH hS hl h0 h1 h2 hr => lv_icmp_eq cx.1 cx.2.1 hd ht (fun h => (kt h).2 p e R s m args below meth c H locs cells slots Q ls cx hH hS hl h0 h1 h2 hr) (fun h => (kf h).2 p e R s m args below meth c H locs cells slots Q ls cx hH hS hl h0 h1 h2 hr)⟩
theorem EV.icmp_ne {x y : Int32} {off : Int} {tgt : Nat} (hd : decode M.2.1 pc = .ok (.if_icmp .ne off, 3)) (ht : (pc : Int) + off = (tgt : Int)) (kt : ¬ x = y → EV G d M tgt lc st S D S' Post) (kf : x = y → EV G d M (pc + 3) lc st S D S' Post) : EV G d M pc lc (.int y :: .int x :: st) S D S' Post :=
  ⟨(Classical.em (x = y)).elim (fun h => (kf h).1) (fun h => (kt h).1), fun p e R s m args below meth c H locs cells slots Q ls cx hH hS hl h0 h1 h2 hr => lv_icmp_ne cx.1 cx.2.1 hd ht (fun h => (kt h).2 p e R s m args below meth c H locs cells slots Q ls cx hH hS hl h0 h1 h2 hr) (fun h => (kf h).2 p e R s m args below meth c H locs cells slots Q ls cx hH hS hl h0 h1 h2 hr)⟩
theorem EV.icmp_lt {x y : Int32} {off : Int} {tgt : Nat} (hd : decode M.2.1 pc = .ok (.if_icmp .lt off, 3)) (ht : (pc : Int) + off = (tgt : Int)) (kt : x < y → EV G d M tgt lc st S D S' Post) (kf : ¬ x < y → EV G d M (pc + 3) lc st S D S' Post) : EV G d M pc lc (.int y :: .int x :: st) S D S' Post :=
  ⟨(Classical.em (x < y)).elim (fun h => (kt h).1) (fun h => (kf h).1), fun p e R s m args below meth c H locs cells slots Q ls cx hH hS hl h0 h1 h2 hr => lv_icmp_lt cx.1 cx.2.1 hd ht (fun h => (kt h).2 p e R s m args below meth c H locs cells slots Q ls cx hH hS hl h0 h1 h2 hr) (fun h => (kf h).2 p e R s m args below meth c H locs cells slots Q ls cx hH hS hl h0 h1 h2 hr)⟩
theorem EV.icmp_ge {x y : Int32} {off : Int} {tgt : Nat} (hd : decode M.2.1 pc = .ok (.if_icmp .ge off, 3)) (ht : (pc : Int) + off = (tgt : Int)) (kt : y ≤ x → EV G d M tgt lc st S D S' Post) (kf : ¬ y ≤ x → EV G d M (pc + 3) lc st S D S' Post) : EV G d M pc lc (.int y :: .int x :: st) S D S' Post :=
  ⟨(Classical.em (y ≤ x)).elim (fun h => (kt h).1) (fun h => (kf h).1), fun p e R s m args below meth c H locs cells slots Q ls cx hH hS hl h0 h1 h2 hr => lv_icmp_ge cx.1 cx.2.1 hd ht (fun h => (kt h).2 p e R s m args below meth c H locs cells slots Q ls cx hH hS hl h0 h1 h2 hr) (fun h => (kf h).2 p e R s m args below meth c H locs cells slots Q ls cx hH hS hl h0 h1 h2 hr)⟩
theorem EV.icmp_gt {x y : Int32} {off : Int} {tgt : Nat} (hd : decode M.2.1 pc = .ok (.if_icmp .gt off, 3)) (ht : (pc : Int) + off = (tgt : Int)) (kt : y < x → EV G d M tgt lc st S D S' Post) (kf : ¬ y < x → EV G d M (pc + 3) lc st S D S' Post) : EV G d M pc lc (.int y :: .int x :: st) S D S' Post :=
  ⟨(Classical.em (y < x)).elim (fun h => (kt h).1) (fun h => (kf h).1), fun p e R s m args below meth c H locs cells slots Q ls cx hH hS hl h0 h1 h2 hr => lv_icmp_gt cx.1 cx.2.1 hd ht (fun h => (kt h).2 p e R s m args below meth c H locs cells slots Q ls cx hH hS hl h0 h1 h2 hr) (fun h => (kf h).2 p e R s m args below meth c H locs cells slots Q ls cx hH hS hl h0 h1 h2 hr)⟩
theorem EV.icmp_le {x y : Int32} {off : Int} {tgt : Nat} (hd : decode M.2.1 pc = .ok (.if_icmp .le off, 3)) (ht : (pc : Int) + off = (tgt : Int)) (kt : x ≤ y → EV G d M tgt lc st S D S' Post) (kf : ¬ x ≤ y → EV G d M (pc + 3) lc st S D S' Post) : EV G d M pc lc (.int y :: .int x :: st) S D S' Post :=
  ⟨(Classical.em (x ≤ y)).elim (fun h => (kt h).1) (fun h => (kf h).1), fun p e R s m args below meth c H locs cells slots Q ls cx hH hS hl h0 h1 h2 hr => lv_icmp_le cx.1 cx.2.1 hd ht (fun h => (kt h).2 p e R s m args below meth c H locs cells slots Q ls cx hH hS hl h0 h1 h2 hr) (fun h => (kf h).2 p e R s m args below meth c H locs cells slots Q ls cx hH hS hl h0 h1 h2 hr)⟩
end MXR
theorem mx_Wsz {p : Program} {l : Launch} {e : Env} {R : Room} {s : State} {m : MethodId} {args : Array Value} {below : List Frame} {meth : Method} {c : Code} {H : Heap} {locs : List Loc} {cells slots : Nat} {Q : State → Prop} {g : JFrame} (k : H.size ≤ s.heap.size + cells → W p l e R s m args below meth c H locs cells slots Q g) : W p l e R s m args below meth c H locs cells slots Q g :=
  fun T hT X => k (by rw [← hT]; exact X.heapSize) T hT X
theorem mx_up_self (D : mx_Mem) (k : Nat) : va_up D k (D k) = D := by
  funext i
  unfold va_up
  by_cases h : i = k
  · rw [if_pos h, h]
  · rw [if_neg h]
theorem mx_S0 {A : Nat → Prop} {H0 H : Heap} {locs : List Loc} (h : va_S A H0 H locs) : va_S A H H locs := ⟨Nat.le_refl _, fun _ _ _ => rfl, h.2.2⟩
theorem mx_ST {A : Nat → Prop} {H0 H H1 : Heap} {locs locs1 : List Loc} (h : va_S A H0 H locs) (h1 : va_S A H H1 locs1) : va_S A H0 H1 locs1 :=
  ⟨Nat.le_trans h.1 h1.1, fun q hq hn => (h1.2.1 q (Nat.lt_of_lt_of_le hq h.1) hn).trans (h.2.1 q hq hn), h1.2.2⟩
theorem mx_tys_at {G : mx_G} {t : Nat} {ty : FieldType} (h : mx_ty[t]? = some ty) : (mx_tys G)[t]? = some (mx_cA G t, ty) := by
  obtain ⟨ht, he⟩ := List.getElem?_eq_some_iff.mp h
  simp [mx_tys, ht, he]
/-- a field's link: the field is number j of the kind number ci, of type ty -/
def mx_lk (own : String) (idx ci j : Nat) (ty : FieldType) (fin : Bool) : Prop := ∃ q : vw_C, vwCl[ci]? = some q ∧ j < q.2.2 ∧ (q.2.1 j).2.2.2 = fin ∧ parseFieldDescriptor (q.2.1 j).2.2.1 = some ty ∧ (Cond.fieldLink own idx (q.2.1 j).1 (q.2.1 j).2.1 (q.2.1 j).2.2.1 ∈ mx_gw ∨ ∃ host, Cond.fieldLinkNest own idx (q.2.1 j).1 (q.2.1 j).2.1 (q.2.1 j).2.2.1 host ∈ mx_nw)
def mx_rd (x : Int32) : Option (Option Nat) → Value
  | none => .int x
  | some r => va_rf r
theorem mx_rd_cv {G : mx_G} {x : Int32} {fo : Option (Option Nat)} : mx_cv G (mx_rd x fo) = mx_fv G x fo := by
  rcases fo with _ | _ | r <;> rfl
theorem mx_fs_at {G : mx_G} {f : Nat → Int32} {fs : List (Option (Option Nat))} {j : Nat} {fo : Option (Option Nat)} (h : fs[j]? = some fo) : ((List.range fs.length).map fun j => mx_fv G (f j) (fs.getD j none))[j]? = some (mx_fv G (f j) fo) := by
  obtain ⟨hj, he⟩ := List.getElem?_eq_some_iff.mp h
  simp [hj, he]
theorem mx_fs_setI {G : mx_G} {f : Nat → Int32} {fs : List (Option (Option Nat))} {j : Nat} {x : Int32} (h : fs[j]? = some none) : ((List.range fs.length).map fun j => mx_fv G (f j) (fs.getD j none)).set j (.int x) = (List.range fs.length).map fun i => mx_fv G (upd f j x i) (fs.getD i none) := by
  obtain ⟨hj, he⟩ := List.getElem?_eq_some_iff.mp h
  apply List.ext_getElem?
  intro i
  by_cases hi : i = j
  · subst hi
    rw [List.getElem?_set_self (by simpa using hj)]
    simp [hj, he, upd, mx_fv]
  · rw [List.getElem?_set_ne (Ne.symm hi)]
    by_cases hl : i < fs.length
    · simp [hl, upd, hi]
    · rw [List.getElem?_eq_none (by simpa using hl), List.getElem?_eq_none (by simpa using hl)]
theorem mx_fs_setR {G : mx_G} {f : Nat → Int32} {fs : List (Option (Option Nat))} {j r : Nat} {fo : Option (Option Nat)} (h : fs[j]? = some fo) : ((List.range fs.length).map fun j => mx_fv G (f j) (fs.getD j none)).set j (.ref (mx_ad G r)) = (List.range (fs.set j (some (some r))).length).map fun i => mx_fv G (f i) ((fs.set j (some (some r))).getD i none) := by
  have hj : j < fs.length := (List.getElem?_eq_some_iff.mp h).1
  apply List.ext_getElem?
  intro i
  by_cases hi : i = j
  · subst hi
    rw [List.getElem?_set_self (by simpa using hj)]
    simp [hj, mx_fv, va_rf]
  · rw [List.getElem?_set_ne (Ne.symm hi)]
    by_cases hl : i < fs.length
    · simp [hl, List.getElem_set_ne (Ne.symm hi)]
    · rw [List.getElem?_eq_none (by simpa using hl), List.getElem?_eq_none (by simpa using hl)]
theorem mx_step {G : mx_G} {S S2 : List mx_Sh} {D D2 : mx_Mem} {H H1 : Heap} {s : State} {cells : Nat} {locs1 : List Loc} (hH : mx_H G S D H) (h0 : s.heap.size + cells = mx_base G + S.length) (hS1 : va_S (mx_A G) H H1 locs1) (hz : H1.size ≤ s.heap.size + cells) (hl : S2.length = S.length) (hP1 : va_P (mx_dd G) vwCl (mx_ws G S2 D2) H1) : mx_H G S2 D2 H1 := by
  refine ⟨?_, hP1⟩
  have h1 := hS1.1
  have h2 := hH.1
  rw [hl]
  omega
theorem mx_cls {ci : Nat} {q : vw_C} (h : vwCl[ci]? = some q) : (∀ w ∈ u_ws q.1 q.2.1 q.2.2, w ∈ mx_gw) ∧ (∀ k, k < q.2.2 → parseFieldDescriptor (q.2.1 k).2.2.1 = some ((parseFieldDescriptor (q.2.1 k).2.2.1).getD .int)) ∧ ∀ a, a < q.2.2 → ∀ b, b < q.2.2 → a ≠ b → (q.2.1 a).2.1 ≠ (q.2.1 b).2.1 := mx_cls0 q (List.mem_of_getElem? h)
theorem mx_sl_set {S : List mx_Sh} {k : Nat} {sh sh' : mx_Sh} (h : S[k]? = some sh) (hn : mx_n sh' = mx_n sh) : mx_sl (S.set k sh') = mx_sl S := by
  have e : (S.set k sh').map mx_n = S.map mx_n := by
    apply List.ext_getElem?
    intro i
    by_cases hi : i = k
    · subst hi
      have hk : i < S.length := (List.getElem?_eq_some_iff.mp h).1
      rw [List.getElem?_map, List.getElem?_map, List.getElem?_set_self hk, h]
      simp [hn]
    · rw [List.getElem?_map, List.getElem?_map, List.getElem?_set_ne (Ne.symm hi)]
  unfold mx_sl
  rw [e]
section MXH
variable {G : mx_G} {d : Nat} {M : mx_M} {pc : Nat} {lc : List (Option Value)} {st : List Value} {S S' : List mx_Sh} {D : mx_Mem} {Post : Option Value → mx_Mem → Prop}
theorem EV.getfield {idx ci j k : Nat} {ty : FieldType} {fin : Bool} {fs : List (Option (Option Nat))} {fo : Option (Option Nat)} (hl : mx_lk M.1.cls idx ci j ty fin) (hd : decode M.2.1 pc = .ok (.getfield idx, 3)) (hk : S[k]? = some (.inl (ci, fs))) (hj : fs[j]? = some fo) (kk : EV G d M (pc + 3) lc (mx_rd (D k j) fo :: st) S D S' Post) : EV G d M pc lc (.ref k :: st) S D S' Post := by
  refine ⟨kk.1, fun p e R s m args below meth c H locs cells slots Q ls cx hH hS hlv h0 h1 h2 hr => ?_⟩
  have K := kk.2 p e R s m args below meth c H locs cells slots Q ls cx hH hS hlv h0 h1 h2 hr
  obtain ⟨hx, hb, -, -, hown, hts, hnw, hK, -⟩ := cx
  obtain ⟨q, hq, hjN, -, -, hlink⟩ := hl
  obtain ⟨hin, -, -⟩ := mx_cls hq
  have hv : ((List.range fs.length).map fun j => mx_fv G (D k j) (fs.getD j none))[j]? = some (mx_cv G (mx_rd (D k j) fo)) := by rw [mx_rd_cv]; exact mx_fs_at hj
  rcases hlink with hlink | ⟨host, hlink⟩
  · exact va_get (C := q.1) (T := q.2.1) (N := q.2.2) hx hb hts hin hown hK hH.2 k (mx_ws_at hk) hq j hjN (hts _ hlink) (fun _ h => h) hv hd K
  · exact va_getN (C := q.1) (T := q.2.1) (N := q.2.2) hx hb hts hin hown hK hH.2 k (mx_ws_at hk) hq j hjN (va_Nw.use rfl (hnw.1 _ hlink)) (fun _ h => h) hv hd K
theorem EV.getI {idx ci j k : Nat} {ty : FieldType} {fin : Bool} {fs : List (Option (Option Nat))} (hl : mx_lk M.1.cls idx ci j ty fin) (hd : decode M.2.1 pc = .ok (.getfield idx, 3)) (hk : S[k]? = some (.inl (ci, fs))) (hj : fs[j]? = some none) (kk : EV G d M (pc + 3) lc (.int (D k j) :: st) S D S' Post) : EV G d M pc lc (.ref k :: st) S D S' Post := EV.getfield hl hd hk hj kk
theorem EV.getR {idx ci j k r : Nat} {ty : FieldType} {fin : Bool} {fs : List (Option (Option Nat))} (hl : mx_lk M.1.cls idx ci j ty fin) (hd : decode M.2.1 pc = .ok (.getfield idx, 3)) (hk : S[k]? = some (.inl (ci, fs))) (hj : fs[j]? = some (some (some r))) (kk : EV G d M (pc + 3) lc (.ref r :: st) S D S' Post) : EV G d M pc lc (.ref k :: st) S D S' Post := EV.getfield hl hd hk hj kk
theorem EV.putI {idx ci j k : Nat} {ty : FieldType} {fs : List (Option (Option Nat))} {x : Int32} (hl : mx_lk M.1.cls idx ci j ty false) (hd : decode M.2.1 pc = .ok (.putfield idx, 3)) (hk : S[k]? = some (.inl (ci, fs))) (hj : fs[j]? = some none) (hn : narrow ty (.int x) = .int x) (hf : fits ty (.int x) = true) (kk : EV G d M (pc + 3) lc st S (mx_w D k j x) S' Post) : EV G d M pc lc (.int x :: .ref k :: st) S D S' Post := by
  refine ⟨kk.1, fun p e R s m args below meth c H locs cells slots Q ls cx hH hS hlv h0 h1 h2 hr => ?_⟩
  have K := fun H1 locs1 hH1 hS1 => kk.2 p e R s m args below meth c H1 locs1 cells slots Q ls cx hH1 hS1 hlv h0 h1 h2 hr
  obtain ⟨hx, hb, -, -, hown, hts, hnw, hK, -⟩ := cx
  obtain ⟨q, hq, hjN, hfin, hty, hlink⟩ := hl
  obtain ⟨hin, hty0, hnm⟩ := mx_cls hq
  have hjl : j < fs.length := (List.getElem?_eq_some_iff.mp hj).1
  have fin : ∀ (H1 : Heap) (locs1 : List Loc), va_P (mx_dd G) vwCl ((mx_ws G S D).set k (mx_ad G k, .inr (ci, ((List.range fs.length).map fun j => mx_fv G (D k j) (fs.getD j none)).set j (.int x)))) H1 → va_S (mx_A G) H H1 locs1 → W p G.1 e R s m args below meth c H1 locs1 cells slots Q (F0 m (pc + 3) ls (st.map (mx_cv G))) := by
    intro H1 locs1 hP1 hS1
    refine mx_Wsz fun hz => ?_
    rw [mx_fs_setI hj] at hP1
    have e1 := mx_set (G := G) (D := D) (sh' := .inl (ci, fs)) (f := upd (D k) j x) hk
    have e2 : va_P (mx_dd G) vwCl ((mx_ws G S D).set k (mx_ad G k, mx_E G (upd (D k) j x) (.inl (ci, fs)))) H1 := hP1
    rw [e1, mx_setS hk] at e2
    exact K H1 locs1 (mx_step (s := s) hH h0 hS1 hz rfl e2) (mx_ST hS hS1)
  rcases hlink with hlink | ⟨host, hlink⟩
  · exact va_put (C := q.1) (T := q.2.1) (N := q.2.2) hx hb hts hin _ hty0 hnm hown hK hH.2 mx_DD (mx_S0 hS) k (mx_ws_at hk) hq j hjN (hts _ hlink) (fun _ h => h) hfin hty hn hf (by simpa using hjl) hd (fun H1 locs1 hP1 _ hS1 => fin H1 locs1 hP1 hS1)
  · exact va_putN (C := q.1) (T := q.2.1) (N := q.2.2) hx hb hts hin _ hty0 hnm hown hK hH.2 mx_DD (mx_S0 hS) k (mx_ws_at hk) hq j hjN (va_Nw.use rfl (hnw.1 _ hlink)) (fun _ h => h) hfin hty hn hf (by simpa using hjl) hd (fun H1 locs1 hP1 _ hS1 => fin H1 locs1 hP1 hS1)
/-- a reference into a final field, by its own constructor -/
theorem EV.putR {idx ci j k r : Nat} {ty : FieldType} {fs : List (Option (Option Nat))} {fo : Option Nat} (hl : ∃ q : vw_C, vwCl[ci]? = some q ∧ j < q.2.2 ∧ (q.2.1 j).2.2.2 = true ∧ parseFieldDescriptor (q.2.1 j).2.2.1 = some ty ∧ Cond.fieldLink M.1.cls idx (q.2.1 j).1 (q.2.1 j).2.1 (q.2.1 j).2.2.1 ∈ mx_gw ∧ (q.2.1 j).1 = M.1.cls) (hini : M.1.name = "<init>") (hd : decode M.2.1 pc = .ok (.putfield idx, 3)) (hk : S[k]? = some (.inl (ci, fs))) (hj : fs[j]? = some (some fo)) (hn : ∀ a : Nat, narrow ty (.ref a) = .ref a) (hf : ∀ a : Nat, fits ty (.ref a) = true) (kk : EV G d M (pc + 3) lc st (S.set k (.inl (ci, fs.set j (some (some r))))) D S' Post) : EV G d M pc lc (.ref r :: .ref k :: st) S D S' Post := by
  have hkl : k < S.length := (List.getElem?_eq_some_iff.mp hk).1
  have hsl : mx_sl (S.set k (.inl (ci, fs.set j (some (some r))))) = mx_sl S := mx_sl_set hk (by simp [mx_n])
  refine ⟨by have := kk.1; rw [hsl, List.length_set] at this; exact this, fun p e R s m args below meth c H locs cells slots Q ls cx hH hS hlv h0 h1 h2 hr => ?_⟩
  have K := fun H1 locs1 hH1 hS1 => kk.2 p e R s m args below meth c H1 locs1 cells slots Q ls cx hH1 hS1 hlv (by rw [List.length_set]; exact h0) (by rw [List.length_set]; exact h1) (by rw [hsl]; exact h2) (by rw [hsl, List.length_set]; exact hr)
  obtain ⟨hx, hb, -, -, hown, hts, hnw, hK, -, hname, -⟩ := cx
  obtain ⟨q, hq, hjN, hfin, hty, hlink, hdecl⟩ := hl
  obtain ⟨hin, hty0, hnm⟩ := mx_cls hq
  have hjl : j < fs.length := (List.getElem?_eq_some_iff.mp hj).1
  refine va_putF (C := q.1) (T := q.2.1) (N := q.2.2) hx hb hts hin _ hty0 hnm hown hK hH.2 mx_DD (mx_S0 hS) k (mx_ws_at hk) hq j hjN (hts _ hlink) (fun _ h => h) hfin (hname.trans hini) hdecl hty (hn _) (hf _) (by simpa using hjl) hd (fun H1 locs1 hP1 _ hS1 => ?_)
  refine mx_Wsz fun hz => ?_
  have hP1 : va_P (mx_dd G) vwCl ((mx_ws G S D).set k (mx_ad G k, .inr (ci, ((List.range fs.length).map fun j => mx_fv G (D k j) (fs.getD j none)).set j (.ref (mx_ad G r))))) H1 := hP1
  rw [mx_fs_setR hj] at hP1
  have e1 := mx_set (G := G) (D := D) (sh' := .inl (ci, fs.set j (some (some r)))) (f := D k) hk
  have e2 : va_P (mx_dd G) vwCl ((mx_ws G S D).set k (mx_ad G k, mx_E G (D k) (.inl (ci, fs.set j (some (some r)))))) H1 := hP1
  have e3 : va_up D k (D k) = D := mx_up_self D k
  rw [e1, e3] at e2
  exact K H1 locs1 (mx_step (s := s) hH h0 hS1 hz (by simp) e2) (mx_ST hS hS1)
theorem EV.iald {k t n : Nat} {i : Int32} (hd : decode M.2.1 pc = .ok (.iaload, 1)) (hk : S[k]? = some (.inr (.inl (t, n)))) (ht : mx_ty[t]? = some .int) (hi : vp_in i n) (kk : EV G d M (pc + 1) lc (.int (D k i.toNatClampNeg) :: st) S D S' Post) : EV G d M pc lc (.int i :: .ref k :: st) S D S' Post := by
  refine ⟨kk.1, fun p e R s m args below meth c H locs cells slots Q ls cx hH hS hlv h0 h1 h2 hr => ?_⟩
  have K := kk.2 p e R s m args below meth c H locs cells slots Q ls cx hH hS hlv h0 h1 h2 hr
  obtain ⟨hx, hb, -, -, hown, hts, hnw, hK, -⟩ := cx
  exact va_iald hx hb hK hH.2 k t (mx_ws_at hk) (mx_tys_at ht) hi hd K
theorem EV.cald {k t n : Nat} {i : Int32} (hd : decode M.2.1 pc = .ok (.caload, 1)) (hk : S[k]? = some (.inr (.inl (t, n)))) (ht : mx_ty[t]? = some .char) (hi : vp_in i n) (kk : EV G d M (pc + 1) lc (.int (D k i.toNatClampNeg) :: st) S D S' Post) : EV G d M pc lc (.int i :: .ref k :: st) S D S' Post := by
  refine ⟨kk.1, fun p e R s m args below meth c H locs cells slots Q ls cx hH hS hlv h0 h1 h2 hr => ?_⟩
  have K := kk.2 p e R s m args below meth c H locs cells slots Q ls cx hH hS hlv h0 h1 h2 hr
  obtain ⟨hx, hb, -, -, hown, hts, hnw, hK, -⟩ := cx
  exact va_cald hx hb hK hH.2 k t (mx_ws_at hk) (mx_tys_at ht) hi hd K
theorem EV.aald {k t r : Nat} {i : Int32} {ty : FieldType} {rs : List (Option Nat)} (hd : decode M.2.1 pc = .ok (.aaload, 1)) (hk : S[k]? = some (.inr (.inr (t, rs)))) (ht : mx_ty[t]? = some ty) (hty : ty.isReference = true) (hi0 : ¬ i < 0) (hi : rs[i.toNatClampNeg]? = some (some r)) (kk : EV G d M (pc + 1) lc (.ref r :: st) S D S' Post) : EV G d M pc lc (.int i :: .ref k :: st) S D S' Post := by
  refine ⟨kk.1, fun p e R s m args below meth c H locs cells slots Q ls cx hH hS hlv h0 h1 h2 hr => ?_⟩
  have K := kk.2 p e R s m args below meth c H locs cells slots Q ls cx hH hS hlv h0 h1 h2 hr
  obtain ⟨hx, hb, -, -, hown, hts, hnw, hK, -⟩ := cx
  have hlt : i.toNatClampNeg < rs.length := (List.getElem?_eq_some_iff.mp hi).1
  have hcell : H[mx_ad G k]? = some (vp_cell (mx_cA G t) (rs.length, .inr (.inr (.inr (.inr fun j => (rs.getD j none).map (mx_ad G)))))) := hH.2 k _ (mx_ws_at hk)
  refine W.aald (v := .ref (mx_ad G r)) (ty := ty) hx hb hcell ((hK.2 t _ (mx_tys_at ht)).1 rs.length (fun j => va_rf ((rs.getD j none).map (mx_ad G)))) hty (fun q => by cases q) (by show ¬ (i < 0 ∨ (arrV _ _ _).slots.size ≤ _); rw [arrV_size]; exact fun h => h.elim hi0 (fun h => by omega)) ?_ rfl rfl hd K
  show (arrV _ _ _).slots[_]? = _
  rw [arrV_read _ _ hlt]
  simp [hi, va_rf]
theorem EV.iast {k t n : Nat} {i x : Int32} (hd : decode M.2.1 pc = .ok (.iastore, 1)) (hk : S[k]? = some (.inr (.inl (t, n)))) (ht : mx_ty[t]? = some .int) (hi : vp_in i n) (kk : EV G d M (pc + 1) lc st S (mx_w D k i.toNatClampNeg x) S' Post) : EV G d M pc lc (.int x :: .int i :: .ref k :: st) S D S' Post := by
  refine ⟨kk.1, fun p e R s m args below meth c H locs cells slots Q ls cx hH hS hlv h0 h1 h2 hr => ?_⟩
  have K := fun H1 locs1 hH1 hS1 => kk.2 p e R s m args below meth c H1 locs1 cells slots Q ls cx hH1 hS1 hlv h0 h1 h2 hr
  obtain ⟨hx, hb, -, -, hown, hts, hnw, hK, -⟩ := cx
  refine va_iast hx hb hK hH.2 mx_DD (mx_S0 hS) k t (mx_ws_at hk) (mx_tys_at ht) hi hd (fun H1 locs1 hP1 _ hS1 => mx_Wsz fun hz => ?_)
  have e1 := mx_set (G := G) (D := D) (sh' := .inr (.inl (t, n))) (f := upd (D k) i.toNatClampNeg x) hk
  have e2 : va_P (mx_dd G) vwCl ((mx_ws G S D).set k (mx_ad G k, mx_E G (upd (D k) i.toNatClampNeg x) (.inr (.inl (t, n))))) H1 := hP1
  rw [e1, mx_setS hk] at e2
  exact K H1 locs1 (mx_step (s := s) hH h0 hS1 hz rfl e2) (mx_ST hS hS1)
theorem EV.cast {k t n : Nat} {i x : Int32} (hd : decode M.2.1 pc = .ok (.castore, 1)) (hk : S[k]? = some (.inr (.inl (t, n)))) (ht : mx_ty[t]? = some .char) (hi : vp_in i n) (hn : narrow .char (.int x) = .int x) (kk : EV G d M (pc + 1) lc st S (mx_w D k i.toNatClampNeg x) S' Post) : EV G d M pc lc (.int x :: .int i :: .ref k :: st) S D S' Post := by
  refine ⟨kk.1, fun p e R s m args below meth c H locs cells slots Q ls cx hH hS hlv h0 h1 h2 hr => ?_⟩
  have K := fun H1 locs1 hH1 hS1 => kk.2 p e R s m args below meth c H1 locs1 cells slots Q ls cx hH1 hS1 hlv h0 h1 h2 hr
  obtain ⟨hx, hb, -, -, hown, hts, hnw, hK, -⟩ := cx
  refine va_cast hx hb hK hH.2 mx_DD (mx_S0 hS) k t (mx_ws_at hk) (mx_tys_at ht) hi hd (fun H1 locs1 hP1 _ hS1 => mx_Wsz fun hz => ?_)
  have e0 : vp_nar .char x = x := by unfold vp_nar; rw [hn]
  have e1 := mx_set (G := G) (D := D) (sh' := .inr (.inl (t, n))) (f := upd (D k) i.toNatClampNeg x) hk
  rw [e0] at hP1
  have e2 : va_P (mx_dd G) vwCl ((mx_ws G S D).set k (mx_ad G k, mx_E G (upd (D k) i.toNatClampNeg x) (.inr (.inl (t, n))))) H1 := hP1
  rw [e1, mx_setS hk] at e2
  exact K H1 locs1 (mx_step (s := s) hH h0 hS1 hz rfl e2) (mx_ST hS hS1)
theorem EV.alen {k t n : Nat} {ty : FieldType} {v : Int32} (hd : decode M.2.1 pc = .ok (.arraylength, 1)) (hk : S[k]? = some (.inr (.inl (t, n)))) (ht : mx_ty[t]? = some ty) (hv : Int32.ofNat n = v) (kk : EV G d M (pc + 1) lc (.int v :: st) S D S' Post) : EV G d M pc lc (.ref k :: st) S D S' Post := by
  refine ⟨kk.1, fun p e R s m args below meth c H locs cells slots Q ls cx hH hS hlv h0 h1 h2 hr => ?_⟩
  have K := kk.2 p e R s m args below meth c H locs cells slots Q ls cx hH hS hlv h0 h1 h2 hr
  obtain ⟨hx, hb, -, -, hown, hts, hnw, hK, -⟩ := cx
  exact va_alen hx hb hK hH.2 k t (mx_ws_at hk) (mx_tys_at ht) hv hd K
/-- the script -/
theorem EV.aload_s {n : Fin 4} (hd : decode M.2.1 pc = .ok (.aload_n n, 1)) (h : lc[(n : Nat)]? = some (some (.retAddr 0))) (k : EV G d M (pc + 1) lc (.retAddr 0 :: st) S D S' Post) : EV G d M pc lc st S D S' Post :=
  ⟨k.1, fun p e R s m args below meth c H locs cells slots Q ls cx hH hS hl h0 h1 h2 hr => lv_aload_n cx.1 cx.2.1 hd rfl (mx_lv_at hl h rfl) (k.2 p e R s m args below meth c H locs cells slots Q ls cx hH hS hl h0 h1 h2 hr)⟩
theorem EV.sld {i : Int32} (hd : decode M.2.1 pc = .ok (.iaload, 1)) (hi : vp_in i (mx_L G)) (kk : EV G d M (pc + 1) lc (.int (mx_xs G i.toNatClampNeg) :: st) S D S' Post) : EV G d M pc lc (.int i :: .retAddr 0 :: st) S D S' Post := by
  refine ⟨kk.1, fun p e R s m args below meth c H locs cells slots Q ls cx hH hS hlv h0 h1 h2 hr => ?_⟩
  have K := kk.2 p e R s m args below meth c H locs cells slots Q ls cx hH hS hlv h0 h1 h2 hr
  obtain ⟨hx, hb, -, -, hown, hts, hnw, hK, -, -, ⟨hX, hbb, hbs⟩, -⟩ := cx
  show W p G.1 e R s m args below meth c H locs cells slots Q (F0 m pc ls (.int i :: .ref (mx_b G) :: st.map (mx_cv G)))
  exact va_sld hx hb hX (by omega) (by show ¬ mx_base G ≤ mx_b G; omega) hS hi hd K
theorem EV.slen {v : Int32} (hd : decode M.2.1 pc = .ok (.arraylength, 1)) (hv : Int32.ofNat (mx_L G) = v) (kk : EV G d M (pc + 1) lc (.int v :: st) S D S' Post) : EV G d M pc lc (.retAddr 0 :: st) S D S' Post := by
  subst hv
  refine ⟨kk.1, fun p e R s m args below meth c H locs cells slots Q ls cx hH hS hlv h0 h1 h2 hr => ?_⟩
  have K := kk.2 p e R s m args below meth c H locs cells slots Q ls cx hH hS hlv h0 h1 h2 hr
  obtain ⟨hx, hb, -, -, hown, hts, hnw, hK, -, -, ⟨hX, hbb, hbs⟩, -⟩ := cx
  show W p G.1 e R s m args below meth c H locs cells slots Q (F0 m pc ls (.ref (mx_b G) :: st.map (mx_cv G)))
  exact va_slen hx hb hX (by omega) (by show ¬ mx_base G ≤ mx_b G; omega) hS hd K
/-- the answer -/
theorem EV.ret {rv : Option Value} (hd : mx_ret M pc rv) (hp : Post rv D) : EV G d M pc lc rv.toList S D S Post := by
  refine ⟨⟨Nat.le_refl _, Nat.le_refl _⟩, fun p e R s m args below meth c H locs cells slots Q ls cx hH hS hlv h0 h1 h2 hr => ?_⟩
  have K := hr rv D H locs pc ls hp hH hS hd
  rw [Nat.sub_self, Nat.sub_self] at K
  cases rv <;> exact K
theorem EV.ireturn {x : Int32} (hd : decode M.2.1 pc = .ok (.ireturn, 1)) (hy : ∃ ty, M.2.2.2 = some ty ∧ narrow ty (.int x) = .int x) (hp : Post (some (.int x)) D) : EV G d M pc lc [.int x] S D S Post := EV.ret (rv := some (.int x)) ⟨hd, hy⟩ hp
theorem EV.areturn {r : Nat} (hd : decode M.2.1 pc = .ok (.areturn, 1)) (hy : ∃ n, M.2.2.2 = some (.object n)) (hp : Post (some (.ref r)) D) : EV G d M pc lc [.ref r] S D S Post := EV.ret (rv := some (.ref r)) ⟨hd, hy⟩ hp
theorem EV.return_ (hd : decode M.2.1 pc = .ok (.return_, 1)) (hy : M.2.2.2 = none) (hp : Post none D) : EV G d M pc lc [] S D S Post := EV.ret (rv := none) ⟨hd, hy⟩ hp
end MXH
def mx_lc0 (M : mx_M) (avs : List Value) : List (Option Value) := avs.map some ++ List.replicate (M.2.2.1 - avs.length) none
def mx_Pc (G : mx_G) (avs : List Value) (S : List mx_Sh) (D : mx_Mem) : Array Value → State → Prop := va_Pc (avs.map (mx_cv G)) (fun U => mx_H G S D U.heap ∧ va_K (mx_dd G) vwCl (mx_tys G) U ∧ mx_NW U ∧ va_X (mx_b G) (mx_L G) (mx_xs G) U U.heap ∧ mx_b G < mx_base G)
def mx_Qc (G : mx_G) (S' : List mx_Sh) (Post : Option Value → mx_Mem → Prop) : Array Value → State → Outcome → State → Prop := fun _ st o t => (∃ (rv : Option Value) (D' : mx_Mem), o = .returned (rv.map (mx_cv G)) ∧ Post rv D' ∧ mx_H G S' D' t.heap) ∧ va_F (mx_A G) st t
def mx_rm (d : Nat) (S S' : List mx_Sh) : Room := { frames := d, cells := S'.length - S.length, slots := mx_sl S' - mx_sl S, locals := mx_KL * d }
def mx_wM (M : mx_M) : List Cond := .code M.1 M.2.1 M.2.2.1 M.2.2.2 :: mx_gw
theorem mx_args : ∀ (vs : List Value) (i j : Nat) (v : Value), (∀ w ∈ vs, w.category = 1) → vs[j]? = some v → (i + j, v) ∈ lv_args i vs := by
  intro vs
  induction vs with
  | nil => intro i j v _ h; simp at h
  | cons w t ih =>
    intro i j v hc h
    have hw : w.category = 1 := hc w List.mem_cons_self
    cases j with
    | zero =>
      simp at h
      subst h
      exact List.mem_cons_self
    | succ j =>
      have h2 : t[j]? = some v := by simpa using h
      have := ih (i + 1) j v (fun w hw => hc w (List.mem_cons_of_mem _ hw)) h2
      unfold lv_args
      rw [if_neg (by omega)]
      refine List.mem_cons_of_mem _ ?_
      rw [show i + (j + 1) = i + 1 + j by omega]
      exact this
theorem mx_sl_len : ∀ vs : List Value, (∀ w ∈ vs, w.category = 1) → (lg_sl vs).length = vs.length := by
  intro vs
  induction vs with
  | nil => intro _; rfl
  | cons w t ih =>
    intro hc
    have hw : w.category = 1 := hc w List.mem_cons_self
    have h2 := ih (fun w hw => hc w (List.mem_cons_of_mem _ hw))
    unfold lg_sl at h2 ⊢
    rw [List.flatMap_cons, List.length_append, if_neg (by omega), h2]
    simp
    omega
theorem mx_lc0_at {M : mx_M} {avs : List Value} {i : Nat} {v : Value} (h : (mx_lc0 M avs)[i]? = some (some v)) : avs[i]? = some v := by
  unfold mx_lc0 at h
  by_cases hi : i < avs.length
  · rw [List.getElem?_append_left (by simpa using hi)] at h
    simpa using h
  · rw [List.getElem?_append_right (by simpa using hi)] at h
    have := List.mem_of_getElem? h
    simp at this
theorem mx_gw_good {w : Cond} (h : w ∈ mx_gw) : (w.onTables && w.keeps) = true ∨ ∃ ty, w = .arrayClass ty := by
  have h2 := (List.mem_filter.mp h).2
  unfold mx_good at h2
  rw [Bool.or_eq_true] at h2
  rcases h2 with h2 | h2
  · exact Or.inl h2
  · right
    cases w <;> simp at h2
    exact ⟨_, rfl⟩
section MXM
variable {G : mx_G} {d : Nat} {M : mx_M} {S S' : List mx_Sh} {D : mx_Mem} {Post : Option Value → mx_Mem → Prop}
theorem mx_met {avs : List Value} (hc : ∀ v ∈ avs, v.category = 1) (hn : avs.length ≤ M.2.2.1) (hy : plainName M.1.cls = true) (hE : EV G d M 0 (mx_lc0 M avs) [] S D S' Post) : Met G.1 M.1 (mx_wM M) (mx_rm d S S') (mx_Pc G avs S D) (mx_Qc G S' Post) (S'.length - S.length) (mx_sl S' - mx_sl S) (mx_A G) := by
  refine Met.ofW (cc := M.2.1) (maxL := M.2.2.1) (ret := M.2.2.2) hy rfl ?_
  intro p e s m args below meth c s₁ B hml hv
  obtain ⟨rfl, hH, hK, hNW, hX, hbb⟩ := hv
  have hts0 := atoms_spec (ws := mx_wM M) B.pre
  have hts : ∀ w ∈ mx_gw, w.before (avs.map (mx_cv G)).toArray s = true := fun w hw => hts0 w (List.mem_cons_of_mem _ hw)
  have hown : s.vm.findClass M.1.cls = some m.cls := findClass_of_methodNamed B.named
  have hname : meth.name = M.1.name := (name_of_methodNamed B.named B.method).1
  have hlocks := B.notSynchronized
  have hx := B.exec
  have hb := B.bytes
  have hr := B.returns
  have hcm : ∀ v ∈ avs.map (mx_cv G), v.category = 1 := by
    intro v hv
    obtain ⟨w, hw, rfl⟩ := List.mem_map.mp hv
    rw [mx_cv_cat]
    exact hc w hw
  have hl0 := lv_entry (avs.map (mx_cv G)) (n := M.2.2.1) (by rw [mx_sl_len _ hcm, List.length_map]; exact hn)
  rw [lg_entry_eq]
  generalize (lg_sl (avs.map (mx_cv G)) ++ List.replicate (M.2.2.1 - (lg_sl (avs.map (mx_cv G))).length) Slot.unset).toArray = ls at hl0 ⊢
  have hcx : mx_Cx G d M p (headSpec (mx_wM M) (mx_rm d S S')).room s m (avs.map (mx_cv G)).toArray meth c := ⟨hx, hb, hr, hml, hown, hts, hNW, hK, hlocks, hname, ⟨hX, hbb, by rw [hH.1]; omega⟩, Nat.le_refl _, Nat.le_refl _⟩
  refine hE.2 p e _ s m _ below meth c s.heap [] 0 0 _ ls hcx hH va_S.rf (mx_lv_sub hl0 fun q hq => ?_) (by rw [hH.1]; omega) (by show 0 + _ ≤ (S'.length - S.length) + S.length; have := hE.1.1; omega) (by show 0 + _ ≤ (mx_sl S' - mx_sl S) + mx_sl S; have := hE.1.2; omega) ?_
  · obtain ⟨v, a1, a2, a3⟩ := mx_lv_mem.mp hq
    have h2 := mx_lc0_at a1
    have := mx_args (avs.map (mx_cv G)) 0 q.1 (mx_cv G v) hcm (by rw [List.getElem?_map, h2]; rfl)
    rw [Nat.zero_add, ← a3] at this
    exact this
  · intro rv D' H' locs' pc' ls' hp hH' hS' hret
    rw [Nat.zero_add, Nat.zero_add]
    have hq : ∀ t : State, t.heap = H' → s.WarmedH t.vm → mx_Qc G S' Post (avs.map (mx_cv G)).toArray s (.returned (rv.map (mx_cv G))) t := fun t ht _ => ⟨⟨rv, D', rfl, hp, by rw [ht]; exact hH'⟩, hS'.F ht⟩
    cases rv with
    | none => exact W.vret hx hb (hr.trans hret.2) hq hS'.2.2 hret.1
    | some v =>
      cases v with
      | int x =>
        obtain ⟨hd, ty, hty, hnr⟩ := hret
        exact W.zret hx hb (hr.trans hty) hnr hq hS'.2.2 hd
      | ref r =>
        obtain ⟨hd, n, hty⟩ := hret
        exact W.aret hx hb (hr.trans hty) (Or.inl ⟨n, rfl⟩) (Or.inr ⟨_, rfl⟩) hq hS'.2.2 hd
      | _ => exact hret.elim
theorem mx_blind {avs : List Value} : FrameBlind (mx_Pc G avs S D) := by
  intro a U g mk h
  obtain ⟨h1, hH, hK, hNW, hX, hbb⟩ := h
  exact ⟨h1, hH, va_K.moved (u := U) (U := U.calling g mk a) (Vm.Alike.refl U.vm) hK, mx_NW_same (u := U) (U := U.calling g mk a) rfl hNW, va_X.moved (u := U) (U := U.calling g mk a) (Vm.Alike.refl U.vm) hX, hbb⟩
/-- what is known of a method that is called: n arguments (without the object) -/
def mx_cal (M2 : mx_M) (n : Nat) : Prop := Cond.code M2.1 M2.2.1 M2.2.2.1 M2.2.2.2 ∈ mx_gw ∧ Cond.initialized M2.1.cls ∈ mx_gw ∧ plainName M2.1.cls = true ∧ (M2.1.cls ≠ "java/lang/invoke/MethodHandle" ∧ M2.1.cls ≠ "java/lang/invoke/VarHandle" ∧ (parseMethodDescriptor M2.1.desc).map (fun d => d.parameters.length) = some n) ∧ 8 + (M2.2.2.1 + 11) ≤ mx_KL
def mx_ml (own : String) (idx : Nat) (M2 : mx_M) : Prop := Cond.methodLink own idx M2.1 ∈ mx_gw ∨ ∃ host, Cond.methodLinkNest own idx M2.1 host ∈ mx_nw
theorem mx_call {p : Program} {e : Env} {R : Room} {s : State} {m : MethodId} {args : Array Value} {below : List Frame} {meth : Method} {c : Code} {H : Heap} {locs : List Loc} {cells slots : Nat} {Q : State → Prop} {pc : Nat} {ls : Array Slot} {st0 rest : List Value} {S1 : List mx_Sh} {P1 : Option Value → mx_Mem → Prop} {a : Array Value} {mc ms : Nat}
    (hr : va_Run p G.1 e R s m args below meth c H locs cells slots mc ms (F0 m pc ls st0) rest (mx_Qc G S1 P1 a) (mx_A G)) (hS : va_S (mx_A G) s.heap H locs)
    (kk : ∀ (rv : Option Value) (D1 : mx_Mem) (H1 : Heap) (locs1 : List Loc), P1 rv D1 → mx_H G S1 D1 H1 → va_S (mx_A G) s.heap H1 locs1 → W p G.1 e R s m args below meth c H1 locs1 (cells + mc) (slots + ms) Q (F0 m (pc + 3) ls ((rv.map (mx_cv G)).toList ++ rest))) : W p G.1 e R s m args below meth c H locs cells slots Q (F0 m pc ls st0) := by
  intro T hT X
  obtain ⟨v, st₀, t, T', L, h0, X', hL, e1, e2, ⟨⟨rv, D1, hv, hp, hH1⟩, hz, hk⟩, stp⟩ := hr T hT X
  cases hv
  rw [h0] at hz hk
  obtain ⟨t2, a1, b1⟩ := kk rv D1 T'.heap (locs ++ L) hp (by rw [e1]; exact hH1)
    ⟨Nat.le_trans hS.1 (by rw [e1]; exact hz), fun q h1 h2 => by rw [e1, hk q (Nat.lt_of_lt_of_le h1 hS.1) h2]; exact hS.2.1 q h1 h2, fun q hq => by
      rcases List.mem_append.mp hq with h | h
      · exact hS.2.2 q h
      · exact hL q h⟩ T' rfl X'
  exact ⟨t2, stp t2 a1, b1⟩
theorem mx_pre {s : State} {H : Heap} {locs : List Loc} {avs : List Value} {d : Nat} {M : mx_M} {p : Program} {R : Room} {m : MethodId} {args : Array Value} {meth : Method} {c : Code} (cx : mx_Cx G d M p R s m args meth c) (hH : mx_H G S D H) (hS : va_S (mx_A G) s.heap H locs) : ∀ U : State, U.heap = H → s.WarmedH U.vm → mx_Pc G avs S D (avs.map (mx_cv G)).toArray U := by
  intro U hU hW
  obtain ⟨-, -, -, -, -, -, hNW, hK, -, -, ⟨hX, hbb, hbs⟩, -⟩ := cx
  refine ⟨rfl, by rw [hU]; exact hH, va_K.moved hW.alike hK, mx_NW_warm hW hNW, ?_, hbb⟩
  refine va_X.moved hW.alike (hX.kept ?_)
  rw [hU]
  exact hS.2.1 _ (by omega) (by show ¬ mx_base G ≤ mx_b G; omega)
theorem mx_goodM {M2 : mx_M} (h : Cond.code M2.1 M2.2.1 M2.2.2.1 M2.2.2.2 ∈ mx_gw) : GoodIn mx_gw (mx_wM M2) := by
  intro w hw
  rcases List.mem_cons.mp hw with rfl | hw
  · exact ⟨h, mx_gw_good h⟩
  · exact ⟨hw, mx_gw_good hw⟩
theorem mx_W8 {rest : List Value} (h : rest.length ≤ 8) (hc : ∀ v ∈ rest, v.category = 1) : ((rest.map (mx_cv G)).map fun v => v.category).sum ≤ 8 := by
  have : ((rest.map (mx_cv G)).map fun v => v.category).sum = rest.length := by
    clear h
    induction rest with
    | nil => rfl
    | cons v t ih =>
      have h2 := ih (fun v hv => hc v (List.mem_cons_of_mem _ hv))
      have h1 := hc v List.mem_cons_self
      simp only [List.map_cons, List.sum_cons, List.length_cons, mx_cv_cat, h1]
      rw [h2]
      omega
  omega
end MXM
def mx_V (own : String) (idx : Nat) (M2 : mx_M) (n ci : Nat) : Prop := mx_ml own idx M2 ∧ mx_cal M2 n ∧ (Cond.instanceMethod M2.1 ∈ mx_gw ∧ Cond.selects M2.1.cls M2.1 M2.1 ∈ mx_gw) ∧ (∃ q : vw_C, vwCl[ci]? = some q ∧ q.1 = M2.1.cls) ∧ n + 1 ≤ M2.2.2.1
def mx_Sc (own : String) (idx : Nat) (M2 : mx_M) (n : Nat) : Prop := mx_ml own idx M2 ∧ mx_cal M2 n ∧ Cond.static M2.1 ∈ mx_gw ∧ n ≤ M2.2.2.1
def mx_Ic (own : String) (idx : Nat) (M2 : mx_M) (n : Nat) : Prop := mx_ml own idx M2 ∧ mx_cal M2 n ∧ Cond.instanceMethod M2.1 ∈ mx_gw ∧ M2.1.name = "<init>" ∧ M2.2.2.2 = none ∧ n + 1 ≤ M2.2.2.1
theorem mx_all1 {l : List Value} (h : l.all (fun v => v.category == 1) = true) : ∀ v ∈ l, v.category = 1 := by
  intro v hv
  have := List.all_eq_true.mp h v hv
  simpa using this
section MXC
variable {G : mx_G} {d : Nat} {M M2 : mx_M} {pc : Nat} {lc : List (Option Value)} {st avs rest : List Value} {S S1 S' : List mx_Sh} {D : mx_Mem} {Post P1 : Option Value → mx_Mem → Prop}
theorem EV.callG {a : Array Value} (hrun : ∀ (p : Program) (e : Env) (R : Room) (s : State) (m : MethodId) (args : Array Value) (below : List Frame) (meth : Method) (c : Code) (H : Heap) (locs : List Loc) (cells slots : Nat) (ls : Array Slot), mx_Cx G (d + 1) M p R s m args meth c → mx_H G S D H → va_S (mx_A G) s.heap H locs → ls.size = M.2.2.1 → (cells + (S1.length - S.length) ≤ R.cells ∧ slots + (mx_sl S1 - mx_sl S) ≤ R.slots) →
      va_Run p G.1 e R s m args below meth c H locs cells slots (S1.length - S.length) (mx_sl S1 - mx_sl S) (F0 m pc ls (st.map (mx_cv G))) (rest.map (mx_cv G)) (mx_Qc G S1 P1 a) (mx_A G))
    (h01 : S.length ≤ S1.length ∧ mx_sl S ≤ mx_sl S1) (hle : S1.length ≤ S'.length ∧ mx_sl S1 ≤ mx_sl S') (kk : ∀ (rv : Option Value) (D1 : mx_Mem), P1 rv D1 → EV G (d + 1) M (pc + 3) lc (rv.toList ++ rest) S1 D1 S' Post) : EV G (d + 1) M pc lc st S D S' Post := by
  refine ⟨⟨Nat.le_trans h01.1 hle.1, Nat.le_trans h01.2 hle.2⟩, fun p e R s m args below meth c H locs cells slots Q ls cx hH hS hlv h0 h1 h2 hr => ?_⟩
  refine mx_call (hrun p e R s m args below meth c H locs cells slots ls cx hH hS hlv.1 ⟨by omega, by omega⟩) hS (fun rv D1 H1 locs1 hp hH1 hS1 => ?_)
  have K := (kk rv D1 hp).2 p e R s m args below meth c H1 locs1 (cells + (S1.length - S.length)) (slots + (mx_sl S1 - mx_sl S)) Q ls cx hH1 hS1 hlv (by omega) (by omega) (by omega) (fun rv' D' H' locs' pc' ls' q1 q2 q3 q4 => by
    have := hr rv' D' H' locs' pc' ls' q1 q2 q3 q4
    rw [show cells + (S1.length - S.length) + (S'.length - S1.length) = cells + (S'.length - S.length) by omega, show slots + (mx_sl S1 - mx_sl S) + (mx_sl S' - mx_sl S1) = slots + (mx_sl S' - mx_sl S) by omega]
    exact this)
  rw [List.map_append] at K
  cases rv <;> exact K
theorem mx_room {d K L : Nat} {x : Nat} (h : mx_KL * (d + 1) ≤ L) (hx : x ≤ mx_KL) : x + mx_KL * d ≤ L := by
  rw [Nat.mul_succ] at h
  omega
theorem EV.invV {idx n k ci : Nat} {fs : List (Option (Option Nat))} (hm : mx_V M.1.cls idx M2 n ci) (hd : decode M.2.1 pc = .ok (.invokevirtual idx, 3)) (hn : avs.length = n) (hk : S[k]? = some (.inl (ci, fs))) (hav : avs.all (fun v => v.category == 1) = true) (hrs : rest.all (fun v => v.category == 1) = true) (hr8 : rest.length ≤ 8) (hE : EV G d M2 0 (mx_lc0 M2 (.ref k :: avs)) [] S D S1 P1) (hle : S1.length ≤ S'.length ∧ mx_sl S1 ≤ mx_sl S') (kk : ∀ (rv : Option Value) (D1 : mx_Mem), P1 rv D1 → EV G (d + 1) M (pc + 3) lc (rv.toList ++ rest) S1 D1 S' Post) : EV G (d + 1) M pc lc (avs.reverse ++ .ref k :: rest) S D S' Post := by
  obtain ⟨hml2, ⟨hcode, hini, hpl, hdd, hKL⟩, hiv, ⟨q, hq, hqc⟩, hnl⟩ := hm
  have hM := mx_met (avs := .ref k :: avs) (fun v hv => by
    rcases List.mem_cons.mp hv with rfl | hv
    · rfl
    · exact mx_all1 hav v hv) (by rw [List.length_cons, hn]; exact hnl) hpl hE
  refine EV.callG (a := (Value.ref (mx_ad G k) :: avs.map (mx_cv G)).toArray) (fun p e R s m args below meth c H locs cells slots ls cx hH hS hsz hf => ?_) hE.1 hle kk
  have hpre := mx_pre (avs := .ref k :: avs) cx hH hS
  obtain ⟨hx, hb, -, hml, hown, hts, hnw, hK, -, -, -, hfr, hlo⟩ := cx
  have hrecv := va_recv hK hH.2 hq (mx_ws_at hk)
  rw [hqc] at hrecv
  have hstack : (F0 m pc ls ((avs.reverse ++ .ref k :: rest).map (mx_cv G))).stack = (avs.map (mx_cv G)).reverse ++ .ref (mx_ad G k) :: rest.map (mx_cv G) := by
    show (avs.reverse ++ .ref k :: rest).map (mx_cv G) = _
    rw [List.map_append, List.map_reverse]
    rfl
  have hR : (mx_rm d S S1).frames + 1 ≤ R.frames ∧ 8 + (M2.2.2.1 + 11) + (mx_rm d S S1).locals ≤ R.locals := ⟨hfr, mx_room (K := 0) hlo hKL⟩
  rcases hml2 with hlink | ⟨host, hlink⟩
  · exact va_runV (C := M2.1.cls) (b := mx_ad G k) (As := avs.map (mx_cv G)) (n := n) ⟨hx, hb, hml, hown, hts⟩ hM ⟨callB_of n hts (mx_goodM hcode) rfl rfl rfl (hts _ hini) (hts _ hlink) hdd hR, hts _ hiv.1, hts _ hiv.2⟩ ⟨mx_blind, hrecv, hpre⟩ rfl (by rw [List.length_map]; exact hn) hsz hstack (lv_room (mx_W8 hr8 (mx_all1 hrs))) hd hf
  · exact va_runVN (C := M2.1.cls) (b := mx_ad G k) (As := avs.map (mx_cv G)) (n := n) ⟨hx, hb, hml, hown, hts⟩ hM ⟨va_cnB n hts (mx_goodM hcode) rfl rfl rfl (hnw.1 _ hlink) (hts _ hini) hdd hR, hts _ hiv.1, hts _ hiv.2⟩ ⟨mx_blind, hrecv, hpre⟩ rfl (by rw [List.length_map]; exact hn) hsz hstack (lv_room (mx_W8 hr8 (mx_all1 hrs))) hd hf
theorem EV.invS {idx n : Nat} (hm : mx_Sc M.1.cls idx M2 n) (hd : decode M.2.1 pc = .ok (.invokestatic idx, 3)) (hn : avs.length = n) (hav : avs.all (fun v => v.category == 1) = true) (hrs : rest.all (fun v => v.category == 1) = true) (hr8 : rest.length ≤ 8) (hE : EV G d M2 0 (mx_lc0 M2 avs) [] S D S1 P1) (hle : S1.length ≤ S'.length ∧ mx_sl S1 ≤ mx_sl S') (kk : ∀ (rv : Option Value) (D1 : mx_Mem), P1 rv D1 → EV G (d + 1) M (pc + 3) lc (rv.toList ++ rest) S1 D1 S' Post) : EV G (d + 1) M pc lc (avs.reverse ++ rest) S D S' Post := by
  obtain ⟨hml2, ⟨hcode, hini, hpl, hdd, hKL⟩, hst, hnl⟩ := hm
  have hM := mx_met (avs := avs) (mx_all1 hav) (by rw [hn]; exact hnl) hpl hE
  refine EV.callG (a := (avs.map (mx_cv G)).toArray) (fun p e R s m args below meth c H locs cells slots ls cx hH hS hsz hf => ?_) hE.1 hle kk
  have hpre := mx_pre (avs := avs) cx hH hS
  obtain ⟨hx, hb, -, hml, hown, hts, hnw, hK, -, -, -, hfr, hlo⟩ := cx
  have hstack : (F0 m pc ls ((avs.reverse ++ rest).map (mx_cv G))).stack = (avs.map (mx_cv G)).reverse ++ rest.map (mx_cv G) := by
    show (avs.reverse ++ rest).map (mx_cv G) = _
    rw [List.map_append, List.map_reverse]
  have hR : (mx_rm d S S1).frames + 1 ≤ R.frames ∧ 8 + (M2.2.2.1 + 11) + (mx_rm d S S1).locals ≤ R.locals := ⟨hfr, mx_room (K := 0) hlo hKL⟩
  rcases hml2 with hlink | ⟨host, hlink⟩
  · exact va_runS (As := avs.map (mx_cv G)) (n := n) ⟨hx, hb, hml, hown, hts⟩ hM ⟨callB_of n hts (mx_goodM hcode) rfl rfl rfl (hts _ hini) (hts _ hlink) hdd hR, hts _ hst⟩ ⟨mx_blind, hpre⟩ rfl (by rw [List.length_map]; exact hn) hsz hstack (lv_room (mx_W8 hr8 (mx_all1 hrs))) hd hf
  · exact va_runSN (As := avs.map (mx_cv G)) (n := n) ⟨hx, hb, hml, hown, hts⟩ hM ⟨va_cnB n hts (mx_goodM hcode) rfl rfl rfl (hnw.1 _ hlink) (hts _ hini) hdd hR, hts _ hst, trivial⟩ ⟨mx_blind, hpre⟩ rfl (by rw [List.length_map]; exact hn) hsz hstack (lv_room (mx_W8 hr8 (mx_all1 hrs))) hd hf
theorem EV.invI {idx n k : Nat} (hm : mx_Ic M.1.cls idx M2 n) (hd : decode M.2.1 pc = .ok (.invokespecial idx, 3)) (hn : avs.length = n) (hav : avs.all (fun v => v.category == 1) = true) (hrs : rest.all (fun v => v.category == 1) = true) (hr8 : rest.length ≤ 8) (hE : EV G d M2 0 (mx_lc0 M2 (.ref k :: avs)) [] S D S1 P1) (hle : S1.length ≤ S'.length ∧ mx_sl S1 ≤ mx_sl S') (kk : ∀ (rv : Option Value) (D1 : mx_Mem), P1 rv D1 → EV G (d + 1) M (pc + 3) lc (rv.toList ++ rest) S1 D1 S' Post) : EV G (d + 1) M pc lc (avs.reverse ++ .ref k :: rest) S D S' Post := by
  obtain ⟨hml2, ⟨hcode, hini, hpl, hdd, hKL⟩, hiv, hinit, hret, hnl⟩ := hm
  have hM := mx_met (avs := .ref k :: avs) (fun v hv => by
    rcases List.mem_cons.mp hv with rfl | hv
    · rfl
    · exact mx_all1 hav v hv) (by rw [List.length_cons, hn]; exact hnl) hpl hE
  refine EV.callG (a := (Value.ref (mx_ad G k) :: avs.map (mx_cv G)).toArray) (fun p e R s m args below meth c H locs cells slots ls cx hH hS hsz hf => ?_) hE.1 hle kk
  have hpre := mx_pre (avs := .ref k :: avs) cx hH hS
  obtain ⟨hx, hb, -, hml, hown, hts, hnw, hK, -, -, -, hfr, hlo⟩ := cx
  have hstack : (F0 m pc ls ((avs.reverse ++ .ref k :: rest).map (mx_cv G))).stack = (avs.map (mx_cv G)).reverse ++ .ref (mx_ad G k) :: rest.map (mx_cv G) := by
    show (avs.reverse ++ .ref k :: rest).map (mx_cv G) = _
    rw [List.map_append, List.map_reverse]
    rfl
  have hR : (mx_rm d S S1).frames + 1 ≤ R.frames ∧ 8 + (M2.2.2.1 + 11) + (mx_rm d S S1).locals ≤ R.locals := ⟨hfr, mx_room (K := 0) hlo hKL⟩
  have hw : mx_wM M2 = Cond.code M2.1 M2.2.1 M2.2.2.1 none :: mx_gw := by unfold mx_wM; rw [hret]
  rcases hml2 with hlink | ⟨host, hlink⟩
  · exact va_runI (b := mx_ad G k) (As := avs.map (mx_cv G)) (n := n) (maxL := M2.2.2.1) (bytes := M2.2.1) ⟨hx, hb, hml, hown, hts⟩ hM ⟨callB_of n hts (mx_goodM hcode) hw rfl rfl (hts _ hini) (hts _ hlink) hdd hR, hinit, hts _ hiv⟩ ⟨mx_blind, hpre⟩ rfl (by rw [List.length_map]; exact hn) hsz hstack (lv_room (mx_W8 hr8 (mx_all1 hrs))) hd hf
  · exact va_runIN (b := mx_ad G k) (As := avs.map (mx_cv G)) (n := n) (maxL := M2.2.2.1) (bytes := M2.2.1) ⟨hx, hb, hml, hown, hts⟩ hM ⟨va_cnB n hts (mx_goodM hcode) hw rfl rfl (hnw.1 _ hlink) (hts _ hini) hdd hR, hinit, hts _ hiv⟩ ⟨mx_blind, hpre⟩ rfl (by rw [List.length_map]; exact hn) hsz hstack (lv_room (mx_W8 hr8 (mx_all1 hrs))) hd hf
theorem EV.V0 {idx k ci : Nat} {fs : List (Option (Option Nat))} (hm : mx_V M.1.cls idx M2 0 ci) (hd : decode M.2.1 pc = .ok (.invokevirtual idx, 3)) (hk : S[k]? = some (.inl (ci, fs))) (hE : EV G d M2 0 (mx_lc0 M2 (.ref k :: [])) [] S D S1 P1) (hle : S1.length ≤ S'.length ∧ mx_sl S1 ≤ mx_sl S') (hav : ([] : List Value).all (fun v => v.category == 1) = true) (hrs : rest.all (fun v => v.category == 1) = true) (hr8 : rest.length ≤ 8) (kk : ∀ (rv : Option Value) (D1 : mx_Mem), P1 rv D1 → EV G (d + 1) M (pc + 3) lc (rv.toList ++ rest) S1 D1 S' Post) : EV G (d + 1) M pc lc (.ref k :: rest) S D S' Post := EV.invV (avs := []) hm hd rfl hk hav hrs hr8 hE hle kk
theorem EV.T0 {idx : Nat} (hm : mx_Sc M.1.cls idx M2 0) (hd : decode M.2.1 pc = .ok (.invokestatic idx, 3)) (hE : EV G d M2 0 (mx_lc0 M2 []) [] S D S1 P1) (hle : S1.length ≤ S'.length ∧ mx_sl S1 ≤ mx_sl S') (hav : ([] : List Value).all (fun v => v.category == 1) = true) (hrs : rest.all (fun v => v.category == 1) = true) (hr8 : rest.length ≤ 8) (kk : ∀ (rv : Option Value) (D1 : mx_Mem), P1 rv D1 → EV G (d + 1) M (pc + 3) lc (rv.toList ++ rest) S1 D1 S' Post) : EV G (d + 1) M pc lc (rest) S D S' Post := EV.invS (avs := []) hm hd rfl hav hrs hr8 hE hle kk
theorem EV.I0 {idx k : Nat} (hm : mx_Ic M.1.cls idx M2 0) (hd : decode M.2.1 pc = .ok (.invokespecial idx, 3)) (hE : EV G d M2 0 (mx_lc0 M2 (.ref k :: [])) [] S D S1 P1) (hle : S1.length ≤ S'.length ∧ mx_sl S1 ≤ mx_sl S') (hav : ([] : List Value).all (fun v => v.category == 1) = true) (hrs : rest.all (fun v => v.category == 1) = true) (hr8 : rest.length ≤ 8) (kk : ∀ (rv : Option Value) (D1 : mx_Mem), P1 rv D1 → EV G (d + 1) M (pc + 3) lc (rv.toList ++ rest) S1 D1 S' Post) : EV G (d + 1) M pc lc (.ref k :: rest) S D S' Post := EV.invI (avs := []) hm hd rfl hav hrs hr8 hE hle kk
theorem EV.V1 {idx k ci : Nat} {a1 : Value} {fs : List (Option (Option Nat))} (hm : mx_V M.1.cls idx M2 1 ci) (hd : decode M.2.1 pc = .ok (.invokevirtual idx, 3)) (hk : S[k]? = some (.inl (ci, fs))) (hE : EV G d M2 0 (mx_lc0 M2 (.ref k :: [a1])) [] S D S1 P1) (hle : S1.length ≤ S'.length ∧ mx_sl S1 ≤ mx_sl S') (hav : ([a1] : List Value).all (fun v => v.category == 1) = true) (hrs : rest.all (fun v => v.category == 1) = true) (hr8 : rest.length ≤ 8) (kk : ∀ (rv : Option Value) (D1 : mx_Mem), P1 rv D1 → EV G (d + 1) M (pc + 3) lc (rv.toList ++ rest) S1 D1 S' Post) : EV G (d + 1) M pc lc (a1 :: .ref k :: rest) S D S' Post := EV.invV (avs := [a1]) hm hd rfl hk hav hrs hr8 hE hle kk
theorem EV.T1 {idx : Nat} {a1 : Value} (hm : mx_Sc M.1.cls idx M2 1) (hd : decode M.2.1 pc = .ok (.invokestatic idx, 3)) (hE : EV G d M2 0 (mx_lc0 M2 [a1]) [] S D S1 P1) (hle : S1.length ≤ S'.length ∧ mx_sl S1 ≤ mx_sl S') (hav : ([a1] : List Value).all (fun v => v.category == 1) = true) (hrs : rest.all (fun v => v.category == 1) = true) (hr8 : rest.length ≤ 8) (kk : ∀ (rv : Option Value) (D1 : mx_Mem), P1 rv D1 → EV G (d + 1) M (pc + 3) lc (rv.toList ++ rest) S1 D1 S' Post) : EV G (d + 1) M pc lc (a1 :: rest) S D S' Post := EV.invS (avs := [a1]) hm hd rfl hav hrs hr8 hE hle kk
theorem EV.I1 {idx k : Nat} {a1 : Value} (hm : mx_Ic M.1.cls idx M2 1) (hd : decode M.2.1 pc = .ok (.invokespecial idx, 3)) (hE : EV G d M2 0 (mx_lc0 M2 (.ref k :: [a1])) [] S D S1 P1) (hle : S1.length ≤ S'.length ∧ mx_sl S1 ≤ mx_sl S') (hav : ([a1] : List Value).all (fun v => v.category == 1) = true) (hrs : rest.all (fun v => v.category == 1) = true) (hr8 : rest.length ≤ 8) (kk : ∀ (rv : Option Value) (D1 : mx_Mem), P1 rv D1 → EV G (d + 1) M (pc + 3) lc (rv.toList ++ rest) S1 D1 S' Post) : EV G (d + 1) M pc lc (a1 :: .ref k :: rest) S D S' Post := EV.invI (avs := [a1]) hm hd rfl hav hrs hr8 hE hle kk
theorem EV.V2 {idx k ci : Nat} {a1 a2 : Value} {fs : List (Option (Option Nat))} (hm : mx_V M.1.cls idx M2 2 ci) (hd : decode M.2.1 pc = .ok (.invokevirtual idx, 3)) (hk : S[k]? = some (.inl (ci, fs))) (hE : EV G d M2 0 (mx_lc0 M2 (.ref k :: [a1, a2])) [] S D S1 P1) (hle : S1.length ≤ S'.length ∧ mx_sl S1 ≤ mx_sl S') (hav : ([a1, a2] : List Value).all (fun v => v.category == 1) = true) (hrs : rest.all (fun v => v.category == 1) = true) (hr8 : rest.length ≤ 8) (kk : ∀ (rv : Option Value) (D1 : mx_Mem), P1 rv D1 → EV G (d + 1) M (pc + 3) lc (rv.toList ++ rest) S1 D1 S' Post) : EV G (d + 1) M pc lc (a2 :: a1 :: .ref k :: rest) S D S' Post := EV.invV (avs := [a1, a2]) hm hd rfl hk hav hrs hr8 hE hle kk
theorem EV.T2 {idx : Nat} {a1 a2 : Value} (hm : mx_Sc M.1.cls idx M2 2) (hd : decode M.2.1 pc = .ok (.invokestatic idx, 3)) (hE : EV G d M2 0 (mx_lc0 M2 [a1, a2]) [] S D S1 P1) (hle : S1.length ≤ S'.length ∧ mx_sl S1 ≤ mx_sl S') (hav : ([a1, a2] : List Value).all (fun v => v.category == 1) = true) (hrs : rest.all (fun v => v.category == 1) = true) (hr8 : rest.length ≤ 8) (kk : ∀ (rv : Option Value) (D1 : mx_Mem), P1 rv D1 → EV G (d + 1) M (pc + 3) lc (rv.toList ++ rest) S1 D1 S' Post) : EV G (d + 1) M pc lc (a2 :: a1 :: rest) S D S' Post := EV.invS (avs := [a1, a2]) hm hd rfl hav hrs hr8 hE hle kk
theorem EV.V3 {idx k ci : Nat} {a1 a2 a3 : Value} {fs : List (Option (Option Nat))} (hm : mx_V M.1.cls idx M2 3 ci) (hd : decode M.2.1 pc = .ok (.invokevirtual idx, 3)) (hk : S[k]? = some (.inl (ci, fs))) (hE : EV G d M2 0 (mx_lc0 M2 (.ref k :: [a1, a2, a3])) [] S D S1 P1) (hle : S1.length ≤ S'.length ∧ mx_sl S1 ≤ mx_sl S') (hav : ([a1, a2, a3] : List Value).all (fun v => v.category == 1) = true) (hrs : rest.all (fun v => v.category == 1) = true) (hr8 : rest.length ≤ 8) (kk : ∀ (rv : Option Value) (D1 : mx_Mem), P1 rv D1 → EV G (d + 1) M (pc + 3) lc (rv.toList ++ rest) S1 D1 S' Post) : EV G (d + 1) M pc lc (a3 :: a2 :: a1 :: .ref k :: rest) S D S' Post := EV.invV (avs := [a1, a2, a3]) hm hd rfl hk hav hrs hr8 hE hle kk
theorem EV.T3 {idx : Nat} {a1 a2 a3 : Value} (hm : mx_Sc M.1.cls idx M2 3) (hd : decode M.2.1 pc = .ok (.invokestatic idx, 3)) (hE : EV G d M2 0 (mx_lc0 M2 [a1, a2, a3]) [] S D S1 P1) (hle : S1.length ≤ S'.length ∧ mx_sl S1 ≤ mx_sl S') (hav : ([a1, a2, a3] : List Value).all (fun v => v.category == 1) = true) (hrs : rest.all (fun v => v.category == 1) = true) (hr8 : rest.length ≤ 8) (kk : ∀ (rv : Option Value) (D1 : mx_Mem), P1 rv D1 → EV G (d + 1) M (pc + 3) lc (rv.toList ++ rest) S1 D1 S' Post) : EV G (d + 1) M pc lc (a3 :: a2 :: a1 :: rest) S D S' Post := EV.invS (avs := [a1, a2, a3]) hm hd rfl hav hrs hr8 hE hle kk
theorem EV.V4 {idx k ci : Nat} {a1 a2 a3 a4 : Value} {fs : List (Option (Option Nat))} (hm : mx_V M.1.cls idx M2 4 ci) (hd : decode M.2.1 pc = .ok (.invokevirtual idx, 3)) (hk : S[k]? = some (.inl (ci, fs))) (hE : EV G d M2 0 (mx_lc0 M2 (.ref k :: [a1, a2, a3, a4])) [] S D S1 P1) (hle : S1.length ≤ S'.length ∧ mx_sl S1 ≤ mx_sl S') (hav : ([a1, a2, a3, a4] : List Value).all (fun v => v.category == 1) = true) (hrs : rest.all (fun v => v.category == 1) = true) (hr8 : rest.length ≤ 8) (kk : ∀ (rv : Option Value) (D1 : mx_Mem), P1 rv D1 → EV G (d + 1) M (pc + 3) lc (rv.toList ++ rest) S1 D1 S' Post) : EV G (d + 1) M pc lc (a4 :: a3 :: a2 :: a1 :: .ref k :: rest) S D S' Post := EV.invV (avs := [a1, a2, a3, a4]) hm hd rfl hk hav hrs hr8 hE hle kk
theorem EV.T4 {idx : Nat} {a1 a2 a3 a4 : Value} (hm : mx_Sc M.1.cls idx M2 4) (hd : decode M.2.1 pc = .ok (.invokestatic idx, 3)) (hE : EV G d M2 0 (mx_lc0 M2 [a1, a2, a3, a4]) [] S D S1 P1) (hle : S1.length ≤ S'.length ∧ mx_sl S1 ≤ mx_sl S') (hav : ([a1, a2, a3, a4] : List Value).all (fun v => v.category == 1) = true) (hrs : rest.all (fun v => v.category == 1) = true) (hr8 : rest.length ≤ 8) (kk : ∀ (rv : Option Value) (D1 : mx_Mem), P1 rv D1 → EV G (d + 1) M (pc + 3) lc (rv.toList ++ rest) S1 D1 S' Post) : EV G (d + 1) M pc lc (a4 :: a3 :: a2 :: a1 :: rest) S D S' Post := EV.invS (avs := [a1, a2, a3, a4]) hm hd rfl hav hrs hr8 hE hle kk
end MXC
theorem mx_lt {D : va_G} {cl : List vw_C} {q : Nat × va_E} {H : Heap} (h : va_at D cl q H) : q.1 < H.size := h.lt
theorem mx_fresh {G : mx_G} {S : List mx_Sh} {D : mx_Mem} {H1 : Heap} {q : Nat} {x : va_E} (hP : va_P (mx_dd G) vwCl (mx_ws G S D ++ [(q, x)]) H1) (hD : va_D (mx_A G) (mx_ws G S D ++ [(q, x)])) (hz : H1.size ≤ mx_base G + S.length + 1) : q = mx_ad G S.length := by
  have hl : (mx_ws G S D).length = S.length := by simp [mx_ws]
  have hq : (mx_ws G S D ++ [(q, x)])[S.length]? = some (q, x) := by rw [List.getElem?_append_right (by omega), hl]; simp
  have h1 : q < H1.size := (hP _ _ hq).lt
  have h2 : mx_base G ≤ q := hD.2 _ _ hq
  unfold mx_ad
  rcases Nat.lt_or_ge q (mx_base G + S.length) with h | h
  · exfalso
    have hk : q - mx_base G < S.length := by omega
    have hs : S[q - mx_base G]? = some S[q - mx_base G] := List.getElem?_eq_getElem hk
    have h3 : (mx_ws G S D ++ [(q, x)])[q - mx_base G]? = some (mx_ad G (q - mx_base G), mx_E G (D (q - mx_base G)) S[q - mx_base G]) := by
      rw [List.getElem?_append_left (by omega)]
      exact mx_ws_at hs
    have := hD.1 _ _ _ _ h3 hq (by show mx_base G + (q - mx_base G) = q; omega)
    omega
  · omega
theorem mx_sl_app {S : List mx_Sh} {sh : mx_Sh} : mx_sl (S ++ [sh]) = mx_sl S + mx_n sh := by simp [mx_sl]
theorem mx_dv {ty : FieldType} {r : Nat} (h : defaultValue ty = mx_rd 0 (some (some r))) : False := by cases ty <;> simp [defaultValue, mx_rd, va_rf] at h
section MXN
variable {G : mx_G} {d : Nat} {M : mx_M} {pc : Nat} {lc : List (Option Value)} {st : List Value} {S S' : List mx_Sh} {D : mx_Mem} {Post : Option Value → mx_Mem → Prop}
theorem mx_RA {U : State} {a b : ClassId} {ty : FieldType} (h1 : va_RA U a ty) (h2 : va_RA U b ty) : a = b := by
  cases ty with
  | object C =>
    obtain ⟨_, _, -, -, -, e1⟩ := h1
    obtain ⟨_, _, -, -, -, e2⟩ := h2
    exact Option.some.inj (e1.symm.trans e2)
  | _ => exact Option.some.inj (Eq.trans (Eq.symm h1) h2)
theorem mx_last {D : va_G} {tys : List (ClassId × FieldType)} {U : State} {cA : ClassId} {ty : FieldType} (h : va_K D vwCl (tys ++ [(cA, ty)]) U) : va_RA U cA ty := (h.2 tys.length (cA, ty) (by simp)).2
/-- a cell of n places is put behind the others -/
theorem mx_put1 {p : Program} {e : Env} {R : Room} {s : State} {m : MethodId} {args : Array Value} {below : List Frame} {meth : Method} {c : Code} {H H1 : Heap} {locs : List Loc} {cells slots n pc2 qa : Nat} {Q : State → Prop} {ls : Array Slot} {sh : mx_Sh} {x : va_E} (hn : mx_n sh = n)
    (kk : EV G d M pc2 lc (.ref S.length :: st) (S ++ [sh]) (mx_z D S.length) S' Post)
    (cx : mx_Cx G d M p R s m args meth c) (hH : mx_H G S D H) (hS : va_S (mx_A G) s.heap H locs) (hlv : lv_has ls M.2.2.1 (mx_lv G lc)) (h0 : s.heap.size + cells = mx_base G + S.length) (h1 : cells + S'.length ≤ R.cells + S.length) (h2 : slots + mx_sl S' ≤ R.slots + mx_sl S)
    (hr : ∀ (rv : Option Value) (D' : mx_Mem) (H' : Heap) (locs' : List Loc) (pc' : Nat) (ls' : Array Slot), Post rv D' → mx_H G S' D' H' → va_S (mx_A G) s.heap H' locs' → mx_ret M pc' rv → W p G.1 e R s m args below meth c H' locs' (cells + (S'.length - S.length)) (slots + (mx_sl S' - mx_sl S)) Q (F0 m pc' ls' (rv.map (mx_cv G)).toList))
    (hx : x = mx_E G (fun _ => 0) sh) (hP1 : va_P (mx_dd G) vwCl (mx_ws G S D ++ [(qa, x)]) H1) (hD1 : va_D (mx_A G) (mx_ws G S D ++ [(qa, x)])) (hS1 : va_S (mx_A G) H H1 locs) :
    W p G.1 e R s m args below meth c H1 locs (cells + 1) (slots + n) Q (F0 m pc2 ls (.ref qa :: st.map (mx_cv G))) := by
  subst hx
  refine mx_Wsz fun hz => ?_
  have k1 := kk.1
  rw [mx_sl_app, List.length_append] at k1
  have hl1 : [sh].length = 1 := rfl
  have e : qa = mx_ad G S.length := mx_fresh hP1 hD1 (by omega)
  subst e
  have hq2 : (mx_ws G S D ++ [(mx_ad G S.length, mx_E G (fun _ => 0) sh)])[S.length]? = some (mx_ad G S.length, mx_E G (fun _ => 0) sh) := by rw [List.getElem?_append_right (by simp [mx_ws])]; simp [mx_ws]
  have h4 : mx_ad G S.length < H1.size := (hP1 _ _ hq2).lt
  unfold mx_ad at h4
  rw [mx_push] at hP1
  exact kk.2 p e R s m args below meth c H1 locs (cells + 1) (slots + n) Q ls cx ⟨by rw [List.length_append]; omega, hP1⟩ (mx_ST hS hS1) hlv (by rw [List.length_append]; omega) (by rw [List.length_append]; omega) (by rw [mx_sl_app]; omega) (fun rv' D' H' locs' pc' ls' q1 q2 q3 q4 => by
    have := hr rv' D' H' locs' pc' ls' q1 q2 q3 q4
    rw [mx_sl_app, List.length_append, hn, hl1]
    rw [show cells + 1 + (S'.length - (S.length + 1)) = cells + (S'.length - S.length) by omega, show slots + n + (mx_sl S' - (mx_sl S + n)) = slots + (mx_sl S' - mx_sl S) by omega]
    exact this)
theorem EV.new {idx ci : Nat} {q : vw_C} {fs : List (Option (Option Nat))} (hq : vwCl[ci]? = some q) (hl : Cond.classLink M.1.cls idx q.1 ∈ mx_gw ∧ Cond.instantiable q.1 q.2.2 ∈ mx_gw ∧ Cond.initialized q.1 ∈ mx_gw) (hfs : fs.length = q.2.2 ∧ ∀ j, j < q.2.2 → defaultValue ((parseFieldDescriptor (q.2.1 j).2.2.1).getD .int) = mx_rd 0 (fs.getD j none)) (hd : decode M.2.1 pc = .ok (.new idx, 3)) (kk : EV G d M (pc + 3) lc (.ref S.length :: st) (S ++ [.inl (ci, fs)]) (mx_z D S.length) S' Post) : EV G d M pc lc st S D S' Post := by
  have k1 := kk.1
  rw [mx_sl_app, List.length_append] at k1
  have hn : mx_n (.inl (ci, fs)) = q.2.2 := hfs.1
  have hl1 : [(Sum.inl (ci, fs) : mx_Sh)].length = 1 := rfl
  refine ⟨⟨by omega, by omega⟩, fun p e R s m args below meth c H locs cells slots Q ls cx hH hS hlv h0 h1 h2 hr => ?_⟩
  have K := fun H1 qa x hx hP1 hD1 hS1 => mx_put1 (p := p) (e := e) (R := R) (s := s) (m := m) (args := args) (below := below) (meth := meth) (c := c) (H := H) (H1 := H1) (locs := locs) (cells := cells) (slots := slots) (Q := Q) (qa := qa) (x := x) hn kk cx hH hS hlv h0 h1 h2 hr hx hP1 hD1 hS1
  obtain ⟨hx, hb, -, -, hown, hts, hnw, hK, -, -, ⟨-, -, hbs⟩, -⟩ := cx
  obtain ⟨hin, hty0, hnm⟩ := mx_cls hq
  refine va_new (C := q.1) (T := q.2.1) (N := q.2.2) (fs := (List.range fs.length).map fun j => mx_fv G 0 (fs.getD j none)) hx hb hts hin _ hty0 hown (hts _ hl.1) (hts _ hl.2.1) (hts _ hl.2.2) hK hH.2 mx_DD (mx_S0 hS) (fun x h => by show mx_base G ≤ x; have := hH.1; omega) hq ?_ (by omega) (by omega) hd (fun qa H1 hP1 hD1 hS1 => K H1 qa _ rfl hP1 hD1 hS1)
  intro j hj
  have h3 := hfs.2 j hj
  rw [h3]
  show _ = ((List.range fs.length).map fun j => mx_fv G 0 (fs.getD j none)).getD j .null
  have hjl : j < fs.length := by rw [hfs.1]; exact hj
  have e2 : ((List.range fs.length).map fun j => mx_fv G 0 (fs.getD j none)).getD j .null = mx_fv G 0 (fs.getD j none) := by simp [hjl]
  rw [e2]
  have e3 : fs.getD j none = none ∨ fs.getD j none = some none := by
    rcases hv : fs.getD j none with _ | _ | r
    · exact Or.inl rfl
    · exact Or.inr rfl
    · exfalso
      rw [hv] at h3
      exact mx_dv h3
  rcases e3 with e3 | e3 <;> rw [e3] <;> rfl
theorem EV.newa {t N : Nat} {atype : ArrayType} {ty : FieldType} {n : Int32} (hty : newarray.typeOf atype = ty) (ht : mx_ty[t]? = some ty) (hac : Cond.arrayClass ty ∈ mx_gw) (hdv : defaultValue ty = .int 0) (hn : ¬ n < 0) (hN : n.toNatClampNeg = N) (hb : N * componentBytes ty ≤ 536870912) (hd : decode M.2.1 pc = .ok (.newarray atype, 2)) (kk : EV G d M (pc + 2) lc (.ref S.length :: st) (S ++ [.inr (.inl (t, N))]) (mx_z D S.length) S' Post) : EV G d M pc lc (.int n :: st) S D S' Post := by
  have k1 := kk.1
  rw [mx_sl_app, List.length_append] at k1
  have hn1 : mx_n (.inr (.inl (t, N))) = N := rfl
  have hl1 : [(Sum.inr (Sum.inl (t, N)) : mx_Sh)].length = 1 := rfl
  refine ⟨⟨by omega, by omega⟩, fun p e R s m args below meth c H locs cells slots Q ls cx hH hS hlv h0 h1 h2 hr => ?_⟩
  have K := fun H1 qa x hx hP1 hD1 hS1 => mx_put1 (p := p) (e := e) (R := R) (s := s) (m := m) (args := args) (below := below) (meth := meth) (c := c) (H := H) (H1 := H1) (locs := locs) (cells := cells) (slots := slots) (Q := Q) (qa := qa) (x := x) hn1 kk cx hH hS hlv h0 h1 h2 hr hx hP1 hD1 hS1
  obtain ⟨hx, hcb, -, -, hown, hts, hnw, hK, -, -, ⟨-, -, hbs⟩, -⟩ := cx
  subst hty
  refine va_newa hx hcb (hts _ hac) rfl hK hH.2 mx_DD (mx_S0 hS) (fun x h => by show mx_base G ≤ x; have := hH.1; omega) (a0 := (N, .inl fun _ => 0)) (fun cA => by rw [vp_cell_i, hdv]) hn hN hb (by omega) (by omega) hd (fun qa cA H1 hK1 hP1 hD1 hS1 => ?_)
  have e1 : cA = mx_cA G t := mx_RA (mx_last hK1) (hK.2 t _ (mx_tys_at ht)).2
  subst e1
  exact K H1 qa _ rfl hP1 hD1 hS1
theorem EV.anew {idx t N : Nat} {C : String} {n : Int32} (ht : mx_ty[t]? = some (.object C)) (hl : Cond.classLink M.1.cls idx C ∈ mx_gw) (hao : C ∈ mx_ao) (hn : ¬ n < 0) (hN : n.toNatClampNeg = N) (hb : N * 4 ≤ 536870912) (hd : decode M.2.1 pc = .ok (.anewarray idx, 3)) (kk : EV G d M (pc + 3) lc (.ref S.length :: st) (S ++ [.inr (.inr (t, List.replicate N none))]) (mx_z D S.length) S' Post) : EV G d M pc lc (.int n :: st) S D S' Post := by
  have k1 := kk.1
  rw [mx_sl_app, List.length_append] at k1
  have hn1 : mx_n (.inr (.inr (t, List.replicate N none))) = N := by simp [mx_n]
  have hl1 : [(Sum.inr (Sum.inr (t, List.replicate N none)) : mx_Sh)].length = 1 := rfl
  refine ⟨⟨by omega, by omega⟩, fun p e R s m args below meth c H locs cells slots Q ls cx hH hS hlv h0 h1 h2 hr => ?_⟩
  have K := fun H1 qa x hx hP1 hD1 hS1 => mx_put1 (p := p) (e := e) (R := R) (s := s) (m := m) (args := args) (below := below) (meth := meth) (c := c) (H := H) (H1 := H1) (locs := locs) (cells := cells) (slots := slots) (Q := Q) (qa := qa) (x := x) hn1 kk cx hH hS hlv h0 h1 h2 hr hx hP1 hD1 hS1
  obtain ⟨hx, hcb, -, -, hown, hts, hnw, hK, -, -, ⟨-, -, hbs⟩, -⟩ := cx
  refine va_newq hx hcb hown (hts _ hl) (hnw.2.1 _ hao) hK hH.2 mx_DD (mx_S0 hS) (fun x h => by show mx_base G ≤ x; have := hH.1; omega) hn hN hb (by omega) (by omega) hd (fun qa cA H1 hK1 hP1 hD1 hS1 => ?_)
  have e1 : cA = mx_cA G t := mx_RA (mx_last hK1) (hK.2 t _ (mx_tys_at ht)).2
  subst e1
  refine K H1 qa _ ?_ hP1 hD1 hS1
  have ef : (fun j : Nat => ((List.replicate N (none : Option Nat)).getD j none).map (mx_ad G)) = fun _ => none := by
    funext j
    by_cases hj : j < N <;> simp [hj]
  show _ = (Sum.inl (mx_cA G t, (List.replicate N none).length, Sum.inr (Sum.inr (Sum.inr (Sum.inr fun j : Nat => ((List.replicate N (none : Option Nat)).getD j none).map (mx_ad G))))) : va_E)
  rw [List.length_replicate, ef]
theorem EV.aast {k t v ci : Nat} {i : Int32} {q : vw_C} {rs : List (Option Nat)} {fs : List (Option (Option Nat))} (hd : decode M.2.1 pc = .ok (.aastore, 1)) (hk : S[k]? = some (.inr (.inr (t, rs)))) (hq : vwCl[ci]? = some q) (ht : mx_ty[t]? = some (.object q.1)) (hv : S[v]? = some (.inl (ci, fs))) (hi : vp_in i rs.length) (kk : EV G d M (pc + 1) lc st (S.set k (.inr (.inr (t, rs.set i.toNatClampNeg (some v))))) D S' Post) : EV G d M pc lc (.ref v :: .int i :: .ref k :: st) S D S' Post := by
  have hsl : mx_sl (S.set k (.inr (.inr (t, rs.set i.toNatClampNeg (some v))))) = mx_sl S := mx_sl_set hk (by simp [mx_n])
  refine ⟨by have := kk.1; rw [hsl, List.length_set] at this; exact this, fun p e R s m args below meth c H locs cells slots Q ls cx hH hS hlv h0 h1 h2 hr => ?_⟩
  have K := fun H1 locs1 hH1 hS1 => kk.2 p e R s m args below meth c H1 locs1 cells slots Q ls cx hH1 hS1 hlv (by rw [List.length_set]; exact h0) (by rw [List.length_set]; exact h1) (by rw [hsl]; exact h2) (by rw [hsl, List.length_set]; exact hr)
  obtain ⟨hx, hb, -, -, hown, hts, hnw, hK, -⟩ := cx
  have hil : i.toNatClampNeg < rs.length := Nat.not_le.mp fun q => hi (Or.inr q)
  refine va_astq hx hb hK hH.2 mx_DD (mx_S0 hS) k t v ci (r := q) (mx_ws_at hk) (mx_tys_at ht) (mx_ws_at hv) hq hi hd (fun H1 locs1 hP1 _ hS1 => mx_Wsz fun hz => ?_)
  have e1 := mx_set (G := G) (D := D) (sh' := .inr (.inr (t, rs.set i.toNatClampNeg (some v)))) (f := D k) hk
  have e0 : mx_E G (D k) (.inr (.inr (t, rs.set i.toNatClampNeg (some v)))) = .inl (mx_cA G t, rs.length, .inr (.inr (.inr (.inr (va_up (fun j => (rs.getD j none).map (mx_ad G)) i.toNatClampNeg (some (mx_ad G v))))))) := by
    have ef : (fun j : Nat => ((rs.set i.toNatClampNeg (some v)).getD j none).map (mx_ad G)) = va_up (fun j => (rs.getD j none).map (mx_ad G)) i.toNatClampNeg (some (mx_ad G v)) := by
      funext j
      unfold va_up
      by_cases hj : j = i.toNatClampNeg
      · subst hj
        simp [hil]
      · simp [hj, List.getElem?_set_ne (Ne.symm hj)]
    show (Sum.inl (mx_cA G t, (rs.set i.toNatClampNeg (some v)).length, Sum.inr (Sum.inr (Sum.inr (Sum.inr fun j : Nat => ((rs.set i.toNatClampNeg (some v)).getD j none).map (mx_ad G))))) : va_E) = _
    rw [List.length_set, ef]
  have e3 : va_up D k (D k) = D := mx_up_self D k
  rw [e0, e3] at e1
  have e2 : va_P (mx_dd G) vwCl ((mx_ws G S D).set k (mx_ad G k, .inl (mx_cA G t, rs.length, .inr (.inr (.inr (.inr (va_up (fun j => (rs.getD j none).map (mx_ad G)) i.toNatClampNeg (some (mx_ad G v))))))))) H1 := hP1
  rw [e1] at e2
  exact K H1 locs1 (mx_step (s := s) hH h0 hS1 hz (by simp) e2) (mx_ST hS hS1)
theorem EV.oinit {idx k : Nat} (hl : Cond.methodLink M.1.cls idx Lib.objectInit ∈ mx_gw) (ho : Cond.instanceMethod Lib.objectInit ∈ mx_gw ∧ Cond.code Lib.objectInit ⟨#[0xb1]⟩ 1 none ∈ mx_gw) (hd : decode M.2.1 pc = .ok (.invokespecial idx, 3)) (hrs : st.all (fun v => v.category == 1) = true) (hr8 : st.length ≤ 8) (kk : EV G (d + 1) M (pc + 3) lc st S D S' Post) : EV G (d + 1) M pc lc (.ref k :: st) S D S' Post := by
  refine ⟨kk.1, fun p e R s m args below meth c H locs cells slots Q ls cx hH hS hlv h0 h1 h2 hr => ?_⟩
  have K := kk.2 p e R s m args below meth c H locs cells slots Q ls cx hH hS hlv h0 h1 h2 hr
  obtain ⟨hx, hb, -, hml, hown, hts, hnw, hK, -, -, -, hfr, hlo⟩ := cx
  have h8 := lv_room (m := m) (pc := pc) (ls := ls) (rest := .ref (mx_ad G k) :: st.map (mx_cv G)) (mx_W8 (G := G) hr8 (mx_all1 hrs))
  exact W.objInit hx hb hown (hts _ hl) (hts _ ho.1) (hts _ ho.2) (g := F0 m pc ls (.ref (mx_ad G k) :: st.map (mx_cv G))) rfl (by rw [hml]; exact hlv.1) rfl hd (by omega) (by have := mx_room (K := 0) (x := 20) hlo (by decide); omega) K
theorem EV.mmin {idx : Nat} {x y : Int32} (hl : Cond.methodLink M.1.cls idx Lib.Math.min.name ∈ mx_gw) (ho : Cond.static Lib.Math.min.name ∈ mx_gw ∧ Cond.initialized "java/lang/Math" ∈ mx_gw ∧ Cond.code Lib.Math.min.name Lib.Math.min.code 2 (some .int) ∈ mx_gw) (hd : decode M.2.1 pc = .ok (.invokestatic idx, 3)) (hrs : st.all (fun v => v.category == 1) = true) (hr8 : st.length ≤ 8) (kk : EV G (d + 1) M (pc + 3) lc (.int (if y < x then y else x) :: st) S D S' Post) : EV G (d + 1) M pc lc (.int y :: .int x :: st) S D S' Post := by
  refine ⟨kk.1, fun p e R s m args below meth c H locs cells slots Q ls cx hH hS hlv h0 h1 h2 hr => ?_⟩
  have K := kk.2 p e R s m args below meth c H locs cells slots Q ls cx hH hS hlv h0 h1 h2 hr
  have k1 := kk.1
  obtain ⟨hx, hb, -, hml, hown, hts, hnw, hK, -, -, -, hfr, hlo⟩ := cx
  have h8 := mx_W8 (G := G) hr8 (mx_all1 hrs)
  exact va_mmin hx hb (by rw [hml]; exact hlv.1.symm) hown (hts _ hl) (hts _ ho.1) (hts _ ho.2.1) (hts _ ho.2.2) (by omega) (by have := mx_room (K := 0) (x := 21) hlo (by decide); omega) (by omega) (by omega) hd K
theorem EV.acopy {idx k0 k1 t n0 n1 : Nat} {sp dp n : Int32} (hl : Cond.methodLink M.1.cls idx arraycopyName ∈ mx_gw) (ho : Cond.native arraycopyName ∈ mx_gw ∧ Cond.static arraycopyName ∈ mx_gw ∧ Cond.initialized "java/lang/System" ∈ mx_gw) (hd : decode M.2.1 pc = .ok (.invokestatic idx, 3)) (hk0 : S[k0]? = some (.inr (.inl (t, n0)))) (hk1 : S[k1]? = some (.inr (.inl (t, n1)))) (ht : mx_ty[t]? = some .int) (h1 : ¬ sp < 0) (h2 : ¬ dp < 0) (h3 : ¬ n < 0) (h4 : sp.toNatClampNeg + n.toNatClampNeg ≤ n0) (h5 : dp.toNatClampNeg + n.toNatClampNeg ≤ n1) (hrs : st.all (fun v => v.category == 1) = true) (hr8 : st.length ≤ 8) (kk : EV G (d + 1) M (pc + 3) lc st S (va_up D k1 (va_cpy (D k0) (D k1) sp.toNatClampNeg dp.toNatClampNeg n.toNatClampNeg)) S' Post) : EV G (d + 1) M pc lc (.int n :: .int dp :: .ref k1 :: .int sp :: .ref k0 :: st) S D S' Post := by
  refine ⟨kk.1, fun p e R s m args below meth c H locs cells slots Q ls cx hH hS hlv g0 g1 g2 hr => ?_⟩
  have K := fun H1 locs1 hH1 hS1 => kk.2 p e R s m args below meth c H1 locs1 cells slots Q ls cx hH1 hS1 hlv g0 g1 g2 hr
  obtain ⟨hx, hb, -, hml, hown, hts, hnw, hK, -, -, -, hfr, hlo⟩ := cx
  have h8 := mx_W8 (G := G) hr8 (mx_all1 hrs)
  refine va_copyi hx hb (by rw [hml]; exact hlv.1.symm) hown (hts _ hl) (hts _ ho.1) (hts _ ho.2.1) (hts _ ho.2.2) hK hH.2 mx_DD (mx_S0 hS) k0 k1 t t (mx_ws_at hk0) (mx_ws_at hk1) (mx_tys_at ht) (mx_tys_at ht) rfl h1 h2 h3 h4 h5 (fun _ _ => rfl) (by omega) (by have := mx_room (K := 0) (x := 8 + (nativeFrameWords "java/lang/System" "arraycopy" 5 + 11)) hlo (by decide); omega) hd (fun H1 locs1 hP1 _ hS1 => mx_Wsz fun hz => ?_)
  have e1 := mx_set (G := G) (D := D) (sh' := .inr (.inl (t, n1))) (f := va_cpy (D k0) (D k1) sp.toNatClampNeg dp.toNatClampNeg n.toNatClampNeg) hk1
  have e2 : va_P (mx_dd G) vwCl ((mx_ws G S D).set k1 (mx_ad G k1, mx_E G (va_cpy (D k0) (D k1) sp.toNatClampNeg dp.toNatClampNeg n.toNatClampNeg) (.inr (.inl (t, n1))))) H1 := hP1
  rw [e1, mx_setS hk1] at e2
  exact K H1 locs1 (mx_step (s := s) hH g0 hS1 hz rfl e2) (mx_ST hS hS1)
end MXN
