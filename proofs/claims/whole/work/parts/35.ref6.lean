theorem ps_first_pos (tb : ps_T) {l : List Nat} (h : 1 ≤ l.length) : 1 ≤ (ps_first tb l).length := by
  unfold ps_first
  split
  · rw [List.length_take]; omega
  · split <;> rw [List.length_take] <;> omega
theorem ps_abs_len (tb : ps_T) : ∀ (r s ps : List Nat), (ps_abs tb s ps r).2.2.length ≤ r.length ∧ (ps_abs tb s ps r).2.1.length + (ps_abs tb s ps r).2.2.length ≤ ps.length + r.length ∧ ∀ x ∈ (ps_abs tb s ps r).2.1, x ∈ ps ∨ ps_mark x = true := by
  intro r
  induction r with
  | nil => intro s ps; exact ⟨by simp [ps_abs], by simp [ps_abs], fun x hx => Or.inl hx⟩
  | cons m r ih =>
    intro s ps
    simp only [ps_abs]
    split
    · rename_i hm
      split
      · obtain ⟨a, b, c⟩ := ih (s ++ [m]) ps
        exact ⟨by simp; omega, by simp; omega, c⟩
      · obtain ⟨a, b, c⟩ := ih s (ps ++ [m])
        refine ⟨by simp; omega, by simp at b ⊢; omega, fun x hx => ?_⟩
        rcases c x hx with h | h
        · rcases List.mem_append.mp h with h | h
          · exact Or.inl h
          · simp at h; subst h; exact Or.inr hm
        · exact Or.inr h
    · exact ⟨by simp, by simp, fun x hx => Or.inl hx⟩
theorem els_fuel (tb : ps_T) (sh : Bool) : ∀ (n m : Nat) (v : Bool) (l : List Nat), l.length ≤ n → l.length ≤ m → ps_els tb sh n v l = ps_els tb sh m v l := by
  intro n
  induction n with
  | zero =>
    intro m v l h1 _
    have : l = [] := List.length_eq_zero_iff.mp (by omega)
    subst this
    cases m <;> simp [ps_els]
  | succ n ih =>
    intro m v l h1 h2
    cases l with
    | nil => cases m <;> simp [ps_els]
    | cons c r =>
      cases m with
      | zero => simp at h2
      | succ m =>
        simp only [ps_els]
        simp at h1 h2
        by_cases hm : ps_mark c = true
        · rw [if_pos hm, if_pos hm, ih m v r h1 h2]
        · rw [if_neg hm, if_neg hm]
          have hf := ps_first_pos tb (l := c :: r) (by simp)
          have hl := (ps_abs_len tb ((c :: r).drop (ps_first tb (c :: r)).length) (ps_first tb (c :: r)) []).1
          rw [List.length_drop, List.length_cons] at hl
          rw [ih m _ _ (by omega) (by omega)]
theorem els_marks (tb : ps_T) (sh v : Bool) : ∀ (ps l : List Nat), (∀ x ∈ ps, ps_mark x = true) → ps_els tb sh (ps ++ l).length v (ps ++ l) = el_ms sh v ps ++ ps_els tb sh l.length v l := by
  intro ps
  induction ps with
  | nil =>
    intro l _
    have : el_ms sh v [] = [] := by unfold el_ms; split <;> rfl
    rw [this]; rfl
  | cons c ps ih =>
    intro l h
    have hc := h c List.mem_cons_self
    have e1 : el_ms sh v (c :: ps) = el_ms sh v [c] ++ el_ms sh v ps := by unfold el_ms; split <;> simp
    rw [e1, List.append_assoc, ← ih l (fun x hx => h x (List.mem_cons_of_mem _ hx))]
    simp only [List.cons_append, List.length_cons, ps_els]
    rw [if_pos hc]
def ps_nz (k : Nat) (es : List ps_E) : List Nat := (es.map (fun e => ps_lv e k)).filter (fun w => decide (w ≠ 0))
theorem ps_nz_app (k : Nat) (a b : List ps_E) : ps_nz k (a ++ b) = ps_nz k a ++ ps_nz k b := by simp [ps_nz]
theorem ps_row_fl (bw : Bool) (es : List ps_E) (k : Nat) : ps_row bw es k = (if (bw && decide (k = 1)) = true then (ps_nz k es).reverse else ps_nz k es) ++ [0] := by
  unfold ps_row ps_nz
  split
  · rw [List.map_reverse, List.filter_reverse]
  · rfl
theorem ps_key_fl {bw : Bool} {es es' : List ps_E} (h : ∀ k, ps_nz k es = ps_nz k es') : ∀ n, ps_key bw es n = ps_key bw es' n := by
  intro n
  induction n with
  | zero => rfl
  | succ n ih => rw [ps_key, ps_key, ih, ps_row_fl, ps_row_fl, h n]
/-- one step of the reference's elements: a mark -/
theorem fl_mark (tb : ps_T) (sh v : Bool) (k c : Nat) (r : List Nat) (hc : ps_mark c = true) : ps_nz k [if (sh && v) = true then (0, 0, 0, 0) else el_m c] ++ ps_nz k (ps_els tb sh r.length v r) = ps_nz k (ps_els tb sh (c :: r).length v (c :: r)) := by
  simp only [List.length_cons, ps_els]
  rw [if_pos hc, ps_nz_app]
  congr 1
  unfold el_ms
  split
  · have : ps_lv (0, 0, 0, 0) k = 0 := by unfold ps_lv; split <;> rfl
    simp [ps_nz, this]
  · rfl
theorem fl_entry (tb : ps_T) (sh v : Bool) (k c : Nat) (r : List Nat) (hc : ¬ ps_mark c = true) {A : List Nat × List Nat × List Nat} (hA : ps_abs tb (ps_first tb (c :: r)) [] ((c :: r).drop (ps_first tb (c :: r)).length) = A) : ps_nz k [el_e tb sh A.1] ++ ps_nz k (ps_els tb sh (A.2.1 ++ A.2.2).length (ps_isv A.1) (A.2.1 ++ A.2.2)) = ps_nz k (ps_els tb sh (c :: r).length v (c :: r)) := by
  have hl := ps_abs_len tb ((c :: r).drop (ps_first tb (c :: r)).length) (ps_first tb (c :: r)) []
  have hf := ps_first_pos tb (l := c :: r) (by simp)
  simp only [List.length_cons, ps_els]
  rw [if_neg hc, hA]
  rw [hA] at hl
  rw [List.length_drop, List.length_cons] at hl
  rw [els_marks tb sh _ A.2.1 A.2.2 (fun x hx => by
    rcases hl.2.2 x hx with h | h
    · cases h
    · exact h), els_fuel tb sh r.length A.2.2.length _ A.2.2 (by omega) (by omega)]
  rw [← ps_nz_app]
  rfl
/-! the reference's places for a key -/
def ElM (f : Nat → Int32) (es : List ps_E) : Prop := ∀ (i : Nat) (e : ps_E), es[i]? = some e → f (4 * i) = nI e.1 ∧ f (4 * i + 1) = nI e.2.1 ∧ f (4 * i + 2) = nI e.2.2.1 ∧ f (4 * i + 3) = nI e.2.2.2
theorem ElM_snoc {f : Nat → Int32} {es : List ps_E} {a b c d : Nat} (h : ElM f es) : ElM (upd (upd (upd (upd f (4 * es.length) (nI a)) (4 * es.length + 1) (nI b)) (4 * es.length + 2) (nI c)) (4 * es.length + 3) (nI d)) (es ++ [(a, b, c, d)]) := by
  intro i e he
  by_cases hi : i = es.length
  · subst hi
    simp at he
    subst he
    simp [upd]
  · have hl : i < es.length := by
      have := (List.getElem?_eq_some_iff.mp he).1
      rw [List.length_append, List.length_singleton] at this
      omega
    rw [List.getElem?_append_left hl] at he
    obtain ⟨x1, x2, x3, x4⟩ := h i e he
    unfold upd
    rw [if_neg (by omega), if_neg (by omega), if_neg (by omega), if_neg (by omega), if_neg (by omega), if_neg (by omega), if_neg (by omega), if_neg (by omega), if_neg (by omega), if_neg (by omega), if_neg (by omega), if_neg (by omega), if_neg (by omega), if_neg (by omega), if_neg (by omega), if_neg (by omega)]
    exact ⟨x1, x2, x3, x4⟩
def FrM (D D' : mx_Mem) : Prop := (∀ k, ¬ k = 80 → ¬ k = 89 → ¬ k = 90 → D' k = D k) ∧ ∀ j, ¬ j = 17 → ¬ j = 19 → ¬ j = 20 → D' 80 j = D 80 j
theorem FrM_r (D : mx_Mem) : FrM D D := ⟨fun _ _ _ _ => rfl, fun _ _ _ _ => rfl⟩
theorem FrM_t {D D1 D2 : mx_Mem} (h : FrM D D1) (g : FrM D1 D2) : FrM D D2 := ⟨fun k a b c => (g.1 k a b c).trans (h.1 k a b c), fun j a b c => (g.2 j a b c).trans (h.2 j a b c)⟩
def TC (D : mx_Mem) (tb : ps_T) (sh : Bool) : Prop := (D 80 0 = nI tb.length ∧ TBf 128 (D 81) (D 82) tb) ∧ D 80 14 = bI sh ∧ ps_ok tb
theorem TC_fr {D D' : mx_Mem} {tb : ps_T} {sh : Bool} (h : TC D tb sh) (g : FrM D D') : TC D' tb sh := by
  unfold TC
  rw [g.2 0 (by omega) (by omega) (by omega), g.2 14 (by omega) (by omega) (by omega), g.1 81 (by omega) (by omega) (by omega), g.1 82 (by omega) (by omega) (by omega)]
  exact h
theorem ar_dl {f : Nat → Int32} {l : List Nat} {a : Nat} (h : ar f l) (ha : a < l.length) : ar (fx_dl f a l.length) (l.eraseIdx a) := by
  intro i c hc
  have hl : i < l.length - 1 := by
    have := (List.getElem?_eq_some_iff.mp hc).1
    rw [List.length_eraseIdx, if_pos ha] at this
    exact this
  rw [List.getElem?_eraseIdx] at hc
  unfold fx_dl
  by_cases h1 : i < a
  · rw [if_pos h1] at hc
    rw [if_neg (by omega)]
    exact h i c hc
  · rw [if_neg h1] at hc
    rw [if_pos (by omega)]
    exact h _ c hc
set_option maxHeartbeats 4000000 in
set_option maxRecDepth 100000 in
theorem lp_Mo_remove {G : mx_G} {d : Nat} {S : List mx_Sh} {D0 : mx_Mem} {cnt a : Nat} (hS : SM S) (hc : D0 80 17 = nI cnt) (hle : cnt ≤ 12) : ∀ (n i : Nat) (D : mx_Mem), i + 1 ≤ cnt → a ≤ i → cnt - (i + 1) = n → D 89 = fx_dl (D0 89) a (i + 1) → (∀ k, ¬ k = 89 → D k = D0 k) → EV G d m_Mo_remove 2 [some (.ref 80), some (.int (nI a)), some (.int (nI i))] [] S D S (fun rv D' => rv = none ∧ D' 89 = fx_dl (D0 89) a cnt ∧ D' 80 = upd (D0 80) 17 (nI (cnt - 1)) ∧ ∀ k, ¬ k = 80 → ¬ k = 89 → D' k = D0 k) := by
  obtain ⟨hm0, hm1, hm2, hm3, hm4, hm5, hm6, hm7, hm8, hm9, hm10, hm11, hm12⟩ := id hS
  intro n
  induction n with
  | zero =>
    intro i D h1 h2 h3 hf ho
    have hc2 : D 80 17 = nI cnt := by rw [ho 80 (by omega)]; exact hc
    refine EV.iload_n d_Mo_remove_2 rfl ?_
    refine EV.iconst (v := nI 1) d_Mo_remove_3 (by decide) ?_
    refine EV.iadd d_Mo_remove_4 ?_
    refine EV.aload_n d_Mo_remove_5 rfl ?_
    refine EV.getI fl_Mo_99 d_Mo_remove_6 (by first | assumption | rfl) rfl ?_
    refine EV.icmp_geN (tgt := 32) d_Mo_remove_9 (by decide) (nI_1 i) hc2 (by omega) (by omega) (fun h9 => ?_) (fun h9 => ?_)
    · refine EV.aload_n d_Mo_remove_32 rfl ?_
      refine EV.dup d_Mo_remove_33 rfl ?_
      refine EV.getI fl_Mo_99 d_Mo_remove_34 (by first | assumption | rfl) rfl ?_
      refine EV.iconst (v := nI 1) d_Mo_remove_37 (by decide) ?_
      refine EV.isub d_Mo_remove_38 ?_
      have ep : i + 1 = cnt := by omega
      rw [ep] at hf
      refine EV.top (y := nI (cnt - 1)) (by rw [hc2]; exact pk_sub (by omega)) ?_
      refine EV.putI fl_Mo_99 d_Mo_remove_39 (by first | assumption | rfl) rfl rfl rfl ?_
      exact EV.return_ d_Mo_remove_42 rfl ⟨rfl, by simp [mx_w, va_up, hf], by simp [mx_w, va_up, ho 80 (by omega)], fun k k1 k2 => by simp [mx_w, va_up, k1, ho k k2]⟩
    · exfalso
      omega
  | succ n ih =>
    intro i D h1 h2 h3 hf ho
    have hc2 : D 80 17 = nI cnt := by rw [ho 80 (by omega)]; exact hc
    refine EV.iload_n d_Mo_remove_2 rfl ?_
    refine EV.iconst (v := nI 1) d_Mo_remove_3 (by decide) ?_
    refine EV.iadd d_Mo_remove_4 ?_
    refine EV.aload_n d_Mo_remove_5 rfl ?_
    refine EV.getI fl_Mo_99 d_Mo_remove_6 (by first | assumption | rfl) rfl ?_
    refine EV.icmp_geN (tgt := 32) d_Mo_remove_9 (by decide) (nI_1 i) hc2 (by omega) (by omega) (fun h9 => ?_) (fun h9 => ?_)
    · exfalso
      omega
    · refine EV.aload_n d_Mo_remove_12 rfl ?_
      refine EV.getR fl_Mo_38 d_Mo_remove_13 (by first | assumption | rfl) rfl ?_
      refine EV.iload_n d_Mo_remove_16 rfl ?_
      refine EV.aload_n d_Mo_remove_17 rfl ?_
      refine EV.getR fl_Mo_38 d_Mo_remove_18 (by first | assumption | rfl) rfl ?_
      refine EV.iload_n d_Mo_remove_21 rfl ?_
      refine EV.iconst (v := nI 1) d_Mo_remove_22 (by decide) ?_
      refine EV.iadd d_Mo_remove_23 ?_
      refine EV.ialdN d_Mo_remove_24 (by first | assumption | rfl) rfl (nI_1 i) (by omega) (by first | decide | omega) ?_
      refine EV.iastN d_Mo_remove_25 (by first | assumption | rfl) rfl rfl (by omega) (by first | decide | omega) ?_
      refine EV.iincN d_Mo_remove_26 rfl (by decide) ?_
      refine EV.goto (tgt := 2) d_Mo_remove_29 (by decide) ?_
      refine ih (i + 1) _ (by omega) (by omega) (by omega) ?_ ?_
      · rw [mx_w_eq, hf]; exact fx_dl_s _ (by omega)
      · intro k k1; rw [mx_w_ne _ _ _ k1]; exact ho k k1
set_option maxHeartbeats 4000000 in
set_option maxRecDepth 100000 in
theorem sp_Mo_remove {G : mx_G} {d : Nat} {S : List mx_Sh} {D : mx_Mem} {l : List Nat} {a : Nat} (hS : SM S) (hc : D 80 17 = nI l.length) (hl : ar (D 89) l) (hle : l.length ≤ 12) (ha : a < l.length) : EV G d m_Mo_remove 0 (mx_lc0 m_Mo_remove [.ref 80, .int (nI a)]) [] S D S (fun rv D' => rv = none ∧ FrM D D' ∧ (∀ j, ¬ j = 17 → D' 80 j = D 80 j) ∧ D' 90 = D 90 ∧ D' 80 17 = nI (l.eraseIdx a).length ∧ ar (D' 89) (l.eraseIdx a)) := by
  obtain ⟨hm0, hm1, hm2, hm3, hm4, hm5, hm6, hm7, hm8, hm9, hm10, hm11, hm12⟩ := id hS
  show EV _ _ _ _ [some (.ref 80), some (.int (nI a)), none] [] _ _ _ _
  refine EV.iload_n d_Mo_remove_0 rfl ?_
  refine EV.istore_n d_Mo_remove_1 (by decide) ?_
  refine EV.post (fun rv D' h => ?_) (lp_Mo_remove (cnt := l.length) hS hc hle (l.length - (a + 1)) a D (by omega) (by omega) rfl (fx_dl_0 _ _).symm (fun _ _ => rfl))
  obtain ⟨rfl, h1, h2, h3⟩ := h
  refine ⟨rfl, ⟨fun k k0 k1 _ => h3 k k0 k1, fun j j0 _ _ => by rw [h2]; simp [upd, j0]⟩, fun j j0 => by rw [h2]; simp [upd, j0], h3 90 (by omega) (by omega), ?_, ?_⟩
  · rw [h2, List.length_eraseIdx, if_pos ha]; simp [upd]
  · rw [h1]; exact ar_dl hl ha
set_option maxHeartbeats 4000000 in
set_option maxRecDepth 100000 in
theorem sp_Mo_element {G : mx_G} {d : Nat} {S : List mx_Sh} {D : mx_Mem} {es : List ps_E} {a b c f : Nat} {sh : Bool} (hS : SM S) (hel : D 80 19 = nI es.length) (hE : ElM (D 90) es) (hl : es.length < 12) (hsh : D 80 14 = bI sh) : EV G d m_Mo_element 0 (mx_lc0 m_Mo_element [.ref 80, .int (nI a), .int (nI b), .int (nI c), .int (nI f)]) [] S D S (fun rv D' => rv = none ∧ FrM D D' ∧ (∀ j, ¬ j = 19 → D' 80 j = D 80 j) ∧ D' 89 = D 89 ∧ D' 80 19 = nI (es.length + 1) ∧ ElM (D' 90) (es ++ [(a, b, c, if sh = true then f else 0)])) := by
  obtain ⟨hm0, hm1, hm2, hm3, hm4, hm5, hm6, hm7, hm8, hm9, hm10, hm11, hm12⟩ := id hS
  show EV _ _ _ _ [some (.ref 80), some (.int (nI a)), some (.int (nI b)), some (.int (nI c)), some (.int (nI f))] [] _ _ _ _
  refine EV.aload_n d_Mo_element_0 rfl ?_
  refine EV.getR fl_Mo_41 d_Mo_element_1 (by first | assumption | rfl) rfl ?_
  refine EV.iconst (v := nI 4) d_Mo_element_4 (by decide) ?_
  refine EV.aload_n d_Mo_element_5 rfl ?_
  refine EV.getI fl_Mo_105 d_Mo_element_6 (by first | assumption | rfl) rfl ?_
  refine EV.top (y := nI es.length) (by simp [mx_w, va_up, hel]) ?_
  refine EV.imul d_Mo_element_9 ?_
  refine EV.iload_n d_Mo_element_10 rfl ?_
  refine EV.iastN d_Mo_element_11 (by first | assumption | rfl) rfl (show _ = nI (4 * es.length) from by rw [pk_mul]) (by omega) (by first | decide | omega) ?_
  refine EV.aload_n d_Mo_element_12 rfl ?_
  refine EV.getR fl_Mo_41 d_Mo_element_13 (by first | assumption | rfl) rfl ?_
  refine EV.iconst (v := nI 4) d_Mo_element_16 (by decide) ?_
  refine EV.aload_n d_Mo_element_17 rfl ?_
  refine EV.getI fl_Mo_105 d_Mo_element_18 (by first | assumption | rfl) rfl ?_
  refine EV.top (y := nI es.length) (by simp [mx_w, va_up, hel]) ?_
  refine EV.imul d_Mo_element_21 ?_
  refine EV.iconst (v := nI 1) d_Mo_element_22 (by decide) ?_
  refine EV.iadd d_Mo_element_23 ?_
  refine EV.iload_n d_Mo_element_24 rfl ?_
  refine EV.iastN d_Mo_element_25 (by first | assumption | rfl) rfl (show _ = nI (4 * es.length + 1) from by rw [pk_mul, nI_add]) (by omega) (by first | decide | omega) ?_
  refine EV.aload_n d_Mo_element_26 rfl ?_
  refine EV.getR fl_Mo_41 d_Mo_element_27 (by first | assumption | rfl) rfl ?_
  refine EV.iconst (v := nI 4) d_Mo_element_30 (by decide) ?_
  refine EV.aload_n d_Mo_element_31 rfl ?_
  refine EV.getI fl_Mo_105 d_Mo_element_32 (by first | assumption | rfl) rfl ?_
  refine EV.top (y := nI es.length) (by simp [mx_w, va_up, hel]) ?_
  refine EV.imul d_Mo_element_35 ?_
  refine EV.iconst (v := nI 2) d_Mo_element_36 (by decide) ?_
  refine EV.iadd d_Mo_element_37 ?_
  refine EV.iload_n d_Mo_element_38 rfl ?_
  refine EV.iastN d_Mo_element_39 (by first | assumption | rfl) rfl (show _ = nI (4 * es.length + 2) from by rw [pk_mul, nI_add]) (by omega) (by first | decide | omega) ?_
  refine EV.aload_n d_Mo_element_40 rfl ?_
  refine EV.getR fl_Mo_41 d_Mo_element_41 (by first | assumption | rfl) rfl ?_
  refine EV.iconst (v := nI 4) d_Mo_element_44 (by decide) ?_
  refine EV.aload_n d_Mo_element_45 rfl ?_
  refine EV.getI fl_Mo_105 d_Mo_element_46 (by first | assumption | rfl) rfl ?_
  refine EV.top (y := nI es.length) (by simp [mx_w, va_up, hel]) ?_
  refine EV.imul d_Mo_element_49 ?_
  refine EV.iconst (v := nI 3) d_Mo_element_50 (by decide) ?_
  refine EV.iadd d_Mo_element_51 ?_
  refine EV.aload_n d_Mo_element_52 rfl ?_
  refine EV.getI fl_Mo_108 d_Mo_element_53 (by first | assumption | rfl) rfl ?_
  refine EV.top (y := bI sh) (by simp [mx_w, va_up, hsh]) ?_
  refine EV.if_eqB (tgt := 64) d_Mo_element_56 (by decide) (fun h56 => ?_) (fun h56 => ?_)
  · refine EV.iconst (v := nI 0) d_Mo_element_64 (by decide) ?_
    refine EV.iastN d_Mo_element_65 (by first | assumption | rfl) rfl (show _ = nI (4 * es.length + 3) from by rw [pk_mul, nI_add]) (by omega) (by first | decide | omega) ?_
    refine EV.aload_n d_Mo_element_66 rfl ?_
    refine EV.dup d_Mo_element_67 rfl ?_
    refine EV.getI fl_Mo_105 d_Mo_element_68 (by first | assumption | rfl) rfl ?_
    refine EV.top (y := nI es.length) (by simp [mx_w, va_up, hel]) ?_
    refine EV.iconst (v := nI 1) d_Mo_element_71 (by decide) ?_
    refine EV.iadd d_Mo_element_72 ?_
    refine EV.top (y := nI (es.length + 1)) (nI_1 _) ?_
    refine EV.putI fl_Mo_105 d_Mo_element_73 (by first | assumption | rfl) rfl rfl rfl ?_
    exact EV.return_ d_Mo_element_76 rfl ⟨rfl, ⟨fun k k0 k1 k2 => by simp [mx_w, va_up, k0, k2], fun j j0 j1 j2 => by simp [mx_w, va_up, upd, j1]⟩, fun j j0 => by simp [mx_w, va_up, upd, j0], by simp [mx_w, va_up], by simp [mx_w, va_up, upd], by simp only [mx_w, va_up]; simp [h56]; exact ElM_snoc hE⟩
  · refine EV.iload d_Mo_element_59 rfl ?_
    refine EV.goto (tgt := 65) d_Mo_element_61 (by decide) ?_
    refine EV.iastN d_Mo_element_65 (by first | assumption | rfl) rfl (show _ = nI (4 * es.length + 3) from by rw [pk_mul, nI_add]) (by omega) (by first | decide | omega) ?_
    refine EV.aload_n d_Mo_element_66 rfl ?_
    refine EV.dup d_Mo_element_67 rfl ?_
    refine EV.getI fl_Mo_105 d_Mo_element_68 (by first | assumption | rfl) rfl ?_
    refine EV.top (y := nI es.length) (by simp [mx_w, va_up, hel]) ?_
    refine EV.iconst (v := nI 1) d_Mo_element_71 (by decide) ?_
    refine EV.iadd d_Mo_element_72 ?_
    refine EV.top (y := nI (es.length + 1)) (nI_1 _) ?_
    refine EV.putI fl_Mo_105 d_Mo_element_73 (by first | assumption | rfl) rfl rfl rfl ?_
    exact EV.return_ d_Mo_element_76 rfl ⟨rfl, ⟨fun k k0 k1 k2 => by simp [mx_w, va_up, k0, k2], fun j j0 j1 j2 => by simp [mx_w, va_up, upd, j1]⟩, fun j j0 => by simp [mx_w, va_up, upd, j0], by simp [mx_w, va_up], by simp [mx_w, va_up, upd], by simp only [mx_w, va_up]; simp [h56]; exact ElM_snoc hE⟩
set_option maxHeartbeats 4000000 in
set_option maxRecDepth 100000 in
theorem sp_Mo_markElement {G : mx_G} {d : Nat} {S : List mx_Sh} {D : mx_Mem} {es : List ps_E} {c : Nat} {sh v : Bool} (hS : SM S) (hel : D 80 19 = nI es.length) (hE : ElM (D 90) es) (hl : es.length < 12) (hsh : D 80 14 = bI sh) (hv : D 80 20 = bI v) (hc : c < 128) : EV G (d + 1) m_Mo_markElement 0 (mx_lc0 m_Mo_markElement [.ref 80, .int (nI c)]) [] S D S (fun rv D' => rv = none ∧ FrM D D' ∧ (∀ j, ¬ j = 19 → D' 80 j = D 80 j) ∧ D' 89 = D 89 ∧ D' 80 19 = nI (es.length + 1) ∧ ElM (D' 90) (es ++ [if (sh && v) = true then (0, 0, 0, 0) else el_m c])) := by
  obtain ⟨hm0, hm1, hm2, hm3, hm4, hm5, hm6, hm7, hm8, hm9, hm10, hm11, hm12⟩ := id hS
  have K : (sh && v) = false → EV G (d + 1) m_Mo_markElement 25 [some (.ref 80), some (.int (nI c))] [] S D S (fun rv D' => rv = none ∧ FrM D D' ∧ (∀ j, ¬ j = 19 → D' 80 j = D 80 j) ∧ D' 89 = D 89 ∧ D' 80 19 = nI (es.length + 1) ∧ ElM (D' 90) (es ++ [if (sh && v) = true then (0, 0, 0, 0) else el_m c])) := by
    intro hne
    refine EV.aload_n d_Mo_markElement_25 rfl ?_
    refine EV.iconst (v := nI 0) d_Mo_markElement_26 (by decide) ?_
    refine EV.bipush (v := nI 100) d_Mo_markElement_27 (by decide) ?_
    refine EV.iload_n d_Mo_markElement_29 rfl ?_
    refine EV.iadd d_Mo_markElement_30 ?_
    refine EV.bipush (v := nI 48) d_Mo_markElement_31 (by decide) ?_
    refine EV.isub d_Mo_markElement_33 ?_
    refine EV.top (y := nI (100 + c - 48)) (by rw [nI_add]; exact pk_sub (by omega)) ?_
    refine EV.iconst (v := nI 1) d_Mo_markElement_34 (by decide) ?_
    refine EV.iconst (v := nI 0) d_Mo_markElement_35 (by decide) ?_
    refine EV.V4 cv_Mo_115 d_Mo_markElement_36 (by first | assumption | rfl) (sp_Mo_element hS hel hE hl hsh) ⟨Nat.le_refl _, Nat.le_refl _⟩ rfl rfl (Nat.le_of_ble_eq_true rfl) (fun rv D1 hp => ?_)
    obtain ⟨rfl, q1, q2, q3, q4, q5⟩ := hp
    exact EV.return_ d_Mo_markElement_39 rfl ⟨rfl, q1, q2, q3, q4, by rw [hne]; simp only [Bool.false_eq_true, if_false]; have e : (0, 100 + c - 48, 1, if sh = true then 0 else 0) = el_m c := (by cases sh <;> rfl); rw [← e]; exact q5⟩
  show EV _ _ _ _ [some (.ref 80), some (.int (nI c))] [] _ _ _ _
  refine EV.aload_n d_Mo_markElement_0 rfl ?_
  refine EV.getI fl_Mo_108 d_Mo_markElement_1 (by first | assumption | rfl) rfl ?_
  refine EV.top hsh ?_
  refine EV.if_eqB (tgt := 25) d_Mo_markElement_4 (by decide) (fun h4 => K (by simp [h4])) (fun h4 => ?_)
  refine EV.aload_n d_Mo_markElement_7 rfl ?_
  refine EV.getI fl_Mo_112 d_Mo_markElement_8 (by first | assumption | rfl) rfl ?_
  refine EV.top hv ?_
  refine EV.if_eqB (tgt := 25) d_Mo_markElement_11 (by decide) (fun h11 => K (by simp [h11])) (fun h11 => ?_)
  refine EV.aload_n d_Mo_markElement_14 rfl ?_
  refine EV.iconst (v := nI 0) d_Mo_markElement_15 (by decide) ?_
  refine EV.iconst (v := nI 0) d_Mo_markElement_16 (by decide) ?_
  refine EV.iconst (v := nI 0) d_Mo_markElement_17 (by decide) ?_
  refine EV.iconst (v := nI 0) d_Mo_markElement_18 (by decide) ?_
  refine EV.V4 cv_Mo_115 d_Mo_markElement_19 (by first | assumption | rfl) (sp_Mo_element hS hel hE hl hsh) ⟨Nat.le_refl _, Nat.le_refl _⟩ rfl rfl (Nat.le_of_ble_eq_true rfl) (fun rv D1 hp => ?_)
  obtain ⟨rfl, q1, q2, q3, q4, q5⟩ := hp
  refine EV.goto (tgt := 39) d_Mo_markElement_22 (by decide) ?_
  exact EV.return_ d_Mo_markElement_39 rfl ⟨rfl, q1, q2, q3, q4, by rw [if_pos (by simp [h4, h11])]; have e : ((0, 0, 0, if sh = true then 0 else 0) : ps_E) = (0, 0, 0, 0) := (by cases sh <;> rfl); rw [← e]; exact q5⟩
set_option maxHeartbeats 4000000 in
set_option maxRecDepth 100000 in
theorem lp_Mo_begins {G : mx_G} {d : Nat} {S : List mx_Sh} {D : mx_Mem} {l : List Nat} {n : Nat} (hS : SM S) (hl : ar (D 89) l) (hn : n ≤ l.length) (h12 : l.length ≤ 12) : ∀ (j : Nat) (v3 : Int32), j ≤ n → v3 = (if j = 0 then -1 else nI (j - 1)) → EV G d m_Mo_begins 6 [some (.ref 80), some (.int (nI n)), some (.int (nI (ps_enc 128 ((l.take n).drop j)))), some (.int v3)] [] S D S (RI (nI (ps_enc 128 (l.take n))) D) := by
  obtain ⟨hm0, hm1, hm2, hm3, hm4, hm5, hm6, hm7, hm8, hm9, hm10, hm11, hm12⟩ := id hS
  intro j
  induction j with
  | zero =>
    intro v3 _ hv
    rw [if_pos rfl] at hv
    subst hv
    refine EV.iload_n d_Mo_begins_6 rfl ?_
    refine EV.if_lt (tgt := 29) d_Mo_begins_7 (by decide) (fun _ => ?_) (fun h => absurd (by decide) h)
    refine EV.iload_n d_Mo_begins_29 rfl ?_
    exact EV.ireturn d_Mo_begins_30 ⟨_, rfl, rfl⟩ ⟨rfl, rfl⟩
  | succ j ih =>
    intro v3 hj hv
    rw [if_neg (by omega), Nat.add_sub_cancel] at hv
    subst hv
    have hc : l[j]? = some (l[j]'(by omega)) := List.getElem?_eq_getElem (by omega)
    have hcv := hl j _ hc
    have hd : (l.take n).drop j = (l[j]'(by omega)) :: (l.take n).drop (j + 1) := by
      rw [List.drop_eq_getElem_cons (by rw [List.length_take]; omega)]
      simp
    refine EV.iload_n d_Mo_begins_6 rfl ?_
    refine EV.if_ltN (tgt := 29) d_Mo_begins_7 rfl (by omega) (by decide) ?_
    refine EV.sipush (v := nI 128) d_Mo_begins_10 (by decide) ?_
    refine EV.iload_n d_Mo_begins_13 rfl ?_
    refine EV.imul d_Mo_begins_14 ?_
    refine EV.aload_n d_Mo_begins_15 rfl ?_
    refine EV.getR fl_Mo_38 d_Mo_begins_16 (by first | assumption | rfl) rfl ?_
    refine EV.iload_n d_Mo_begins_19 rfl ?_
    refine EV.ialdN d_Mo_begins_20 (by first | assumption | rfl) rfl rfl (by omega) (by first | decide | omega) ?_
    refine EV.top hcv ?_
    refine EV.iadd d_Mo_begins_21 ?_
    refine EV.top (y := nI (ps_enc 128 ((l.take n).drop j))) (by rw [hd]; simp only [ps_enc]; rw [pk_mul, nI_add, Nat.add_comm]) ?_
    refine EV.istore_n d_Mo_begins_22 (by decide) ?_
    refine EV.iinc (v := if j = 0 then -1 else nI (j - 1)) d_Mo_begins_23 rfl (by
      cases j with
      | zero => decide
      | succ j => rw [if_neg (by omega), Nat.add_sub_cancel]; exact pk_m1 j) (by decide) ?_
    refine EV.goto (tgt := 6) d_Mo_begins_26 (by decide) ?_
    exact ih _ (by omega) rfl
set_option maxHeartbeats 4000000 in
set_option maxRecDepth 100000 in
theorem sp_Mo_begins {G : mx_G} {d : Nat} {S : List mx_Sh} {D : mx_Mem} {l : List Nat} {n : Nat} (hS : SM S) (hl : ar (D 89) l) (hn : n ≤ l.length) (h1 : 1 ≤ n) (h12 : l.length ≤ 12) : EV G d m_Mo_begins 0 (mx_lc0 m_Mo_begins [.ref 80, .int (nI n)]) [] S D S (RI (nI (ps_enc 128 (l.take n))) D) := by
  obtain ⟨hm0, hm1, hm2, hm3, hm4, hm5, hm6, hm7, hm8, hm9, hm10, hm11, hm12⟩ := id hS
  show EV _ _ _ _ [some (.ref 80), some (.int (nI n)), none, none] [] _ _ _ _
  refine EV.iconst (v := nI 0) d_Mo_begins_0 (by decide) ?_
  refine EV.istore_n d_Mo_begins_1 (by decide) ?_
  refine EV.iload_n d_Mo_begins_2 rfl ?_
  refine EV.iconst (v := nI 1) d_Mo_begins_3 (by decide) ?_
  refine EV.isub d_Mo_begins_4 ?_
  refine EV.top (y := nI (n - 1)) (pk_sub h1) ?_
  refine EV.istore_n d_Mo_begins_5 (by decide) ?_
  have J := lp_Mo_begins (G := G) (d := d) hS hl hn h12 n (nI (n - 1)) (by omega) (by rw [if_neg (by omega)])
  rw [List.drop_of_length_le (by rw [List.length_take]; omega)] at J
  exact J
