section MXB
variable {G : mx_G} {d : Nat} {M : mx_M} {pc : Nat} {lc : List (Option Value)} {st : List Value} {S S' : List mx_Sh} {D : mx_Mem} {Post : Option Value → mx_Mem → Prop}
theorem bI_le (b : Bool) : (if b then 1 else 0) < 2 ^ 31 := by cases b <;> decide
theorem EV.if_eqB {b : Bool} {off : Int} {tgt : Nat} (hd : decode M.2.1 pc = .ok (.ifCond .eq off, 3)) (ht : (pc : Int) + off = (tgt : Int)) (kt : b = false → EV G d M tgt lc st S D S' Post) (kf : b = true → EV G d M (pc + 3) lc st S D S' Post) : EV G d M pc lc (.int (bI b) :: st) S D S' Post :=
  EV.if_eqN hd ht rfl (bI_le b) (fun h => kt (by cases b <;> simp_all)) (fun h => kf (by cases b <;> simp_all))
theorem EV.if_neB {b : Bool} {off : Int} {tgt : Nat} (hd : decode M.2.1 pc = .ok (.ifCond .ne off, 3)) (ht : (pc : Int) + off = (tgt : Int)) (kt : b = true → EV G d M tgt lc st S D S' Post) (kf : b = false → EV G d M (pc + 3) lc st S D S' Post) : EV G d M pc lc (.int (bI b) :: st) S D S' Post :=
  EV.if_neN hd ht rfl (bI_le b) (fun h => kt (by cases b <;> simp_all)) (fun h => kf (by cases b <;> simp_all))
end MXB
/-- a row of the memory begins with the numbers xs -/
def ar (f : Nat → Int32) (xs : List Nat) : Prop := ∀ (i x : Nat), xs[i]? = some x → f i = nI x
theorem ar_snoc {f : Nat → Int32} {xs : List Nat} {x : Nat} (h : ar f xs) : ar (upd f xs.length (nI x)) (xs ++ [x]) := by
  intro i y hi
  unfold upd
  by_cases q : i = xs.length
  · subst q
    rw [if_pos rfl]
    simp at hi
    rw [hi]
  · rw [if_neg q]
    have hl : i < xs.length := by
      have := (List.getElem?_eq_some_iff.mp hi).1
      rw [List.length_append, List.length_singleton] at this
      omega
    rw [List.getElem?_append_left hl] at hi
    exact h i y hi
theorem ar_nil (f : Nat → Int32) : ar f [] := fun i x h => by simp at h
def ShL (S : List mx_Sh) (k n : Nat) : Prop := S[k]? = some (.inl (3, [some (some (k + 1)), none])) ∧ S[k + 1]? = some (.inr (.inl (1, n)))
def LN (D : mx_Mem) (k : Nat) (xs : List Nat) : Prop := D k 1 = nI xs.length ∧ ar (D (k + 1)) xs
def ShK (S : List mx_Sh) (k : Nat) : Prop := S[k]? = some (.inl (1, [some (some (k + 1)), none])) ∧ S[k + 1]? = some (.inr (.inl (0, 52)))
/-- -1, 0, 1 by the first place where they differ -/
def ps_cmp : List Nat → List Nat → Int32
  | x :: xs, y :: ys => if x = y then ps_cmp xs ys else if x < y then -1 else nI 1
  | _, _ => nI 0
theorem ps_cmp_nil (xs : List Nat) : ps_cmp xs [] = nI 0 := by cases xs <;> rfl
theorem ps_len_enc {s : List Nat} (h : ps_so s) : ps_len (ps_enc 256 s) = s.length := by
  obtain ⟨h1, h2, h3⟩ := h
  match s, h1, h2, h3 with
  | [a], _, _, h3 =>
    have h4 := h3 a (by simp)
    have e1 : ps_enc 256 [a] = a := by simp [ps_enc]
    rw [e1]
    unfold ps_len
    rw [if_pos (by omega)]
    rfl
  | [a, b], _, _, h3 =>
    have h4 := h3 a (by simp)
    have h5 := h3 b (by simp)
    have e1 : ps_enc 256 [a, b] = a + 256 * b := by simp [ps_enc]
    rw [e1]
    unfold ps_len
    rw [if_neg (by omega), if_pos (by omega)]
    rfl
  | [a, b, c], _, _, h3 =>
    have h4 := h3 a (by simp)
    have h5 := h3 b (by simp)
    have h6 := h3 c (by simp)
    have e1 : ps_enc 256 [a, b, c] = a + 256 * (b + 256 * c) := by simp [ps_enc]
    rw [e1]
    unfold ps_len
    rw [if_neg (by omega), if_neg (by omega)]
    rfl
theorem TBf_set {b : Nat} {f g : Nat → Int32} {tb : ps_T} {i : Nat} {e e' : List Nat × Nat} (h : TBf b f g tb) (he : tb[i]? = some e) (h2 : e'.2 = e.2) : TBf b (upd f i (nI (ps_enc b e'.1))) g (tb.set i e') := by
  intro j x hj
  have hi : i < tb.length := (List.getElem?_eq_some_iff.mp he).1
  unfold upd
  by_cases q : j = i
  · subst q
    rw [List.getElem?_set_self hi] at hj
    cases hj
    rw [if_pos rfl, h2]
    exact ⟨rfl, (h j e he).2⟩
  · rw [List.getElem?_set_ne (Ne.symm q)] at hj
    rw [if_neg q]
    exact h j x hj
theorem TBf_snoc {b : Nat} {f g : Nat → Int32} {tb : ps_T} {e : List Nat × Nat} (h : TBf b f g tb) : TBf b (upd f tb.length (nI (ps_enc b e.1))) (upd g tb.length (nI e.2)) (tb ++ [e]) := by
  intro j x hj
  unfold upd
  by_cases q : j = tb.length
  · subst q
    simp at hj
    subst hj
    simp
  · have hl : j < tb.length := by
      have := (List.getElem?_eq_some_iff.mp hj).1
      rw [List.length_append, List.length_singleton] at this
      omega
    rw [List.getElem?_append_left hl] at hj
    rw [if_neg q, if_neg q]
    exact h j x hj
/-! reading a rule: the state, the sign's step, the strings with their steps -/
abbrev ru_Q : Type := Nat × Nat × ps_T
def ru_go (q : ru_Q) (c : Nat) : Option ru_Q := match q.2.2[q.2.2.length - 1]? with
  | none => none
  | some e => if (ps_letter c || ps_mark c) = true ∧ e.1.length < 3 then some (2, q.2.1, q.2.2.set (q.2.2.length - 1) (e.1 ++ [c], e.2)) else none
def ru_st (q : ru_Q) (c : Nat) : Option ru_Q :=
  if q.1 = 0 then (if c = 38 then some (1, 0, q.2.2) else none)
  else if q.1 = 1 then (if c = 60 ∧ (q.2.1 = 1 ∨ q.2.1 = 2) then some (1, q.2.1 + 1, q.2.2) else if ps_letter c = true then some (2, q.2.1, q.2.2 ++ [([c], q.2.1)]) else none)
  else if c = 60 then some (1, 1, q.2.2) else if c = 61 then some (1, 4, q.2.2) else ru_go q c
def RuS (D : mx_Mem) (r : Nat) (q : ru_Q) : Prop := D r 2 = nI q.2.2.length ∧ D r 3 = nI q.1 ∧ D r 4 = nI q.2.1 ∧ TBf 256 (D (r + 1)) (D (r + 2)) q.2.2
def ru_wf (q : ru_Q) (n : Nat) : Prop := q.1 ≤ 2 ∧ q.2.1 ≤ 4 ∧ q.2.2.length ≤ n ∧ (∀ e ∈ q.2.2, ps_so e.1 ∧ e.2 ≤ 4) ∧ (q.1 = 2 → 1 ≤ q.2.2.length) ∧ (q.1 = 0 → q.2.2.length = 0) ∧ (q.1 = 1 → (q.2.1 = 0 ↔ q.2.2.length = 0)) ∧ ∀ i e, 1 ≤ i → q.2.2[i]? = some e → 1 ≤ e.2
/-- what is answered by an option -/
def oR {α : Type} (o : Option α) (A : Prop) (B : α → Prop) : Prop := match o with
  | none => A
  | some q => B q
theorem oR_n {α : Type} {o : Option α} {A : Prop} {B : α → Prop} (h : o = none) (a : A) : oR o A B := by subst h; exact a
theorem oR_s {α : Type} {o : Option α} {A : Prop} {B : α → Prop} {q : α} (h : o = some q) (b : B q) : oR o A B := by subst h; exact b
set_option maxHeartbeats 4000000 in
set_option maxRecDepth 100000 in
theorem sp_Li_append {G : mx_G} {d : Nat} {S : List mx_Sh} {D : mx_Mem} {k n c : Nat} {xs : List Nat} (hK : ShL S k n) (hL : LN D k xs) (hle : xs.length ≤ n) (hn : n ≤ 24) (hc : c < 65536) : EV G d m_Li_append 0 (mx_lc0 m_Li_append [.ref k, .int (nI c)]) [] S D S (fun rv D' => (∀ q, ¬ q = k → ¬ q = k + 1 → D' q = D q) ∧ rv = some (.int (bI (decide (xs.length < n)))) ∧ LN D' k (if xs.length < n then xs ++ [c] else xs)) := by
  obtain ⟨hk0, hk1⟩ := id hK
  show EV _ _ _ _ [some (.ref k), some (.int (nI c))] [] _ _ _ _
  refine EV.aload_n d_Li_append_0 rfl ?_
  refine EV.getI fl_Li_13 d_Li_append_1 (by first | assumption | rfl) rfl ?_
  refine EV.aload_n d_Li_append_4 rfl ?_
  refine EV.getR fl_Li_7 d_Li_append_5 (by first | assumption | rfl) rfl ?_
  refine EV.alen (v := nI n) d_Li_append_8 (by first | assumption | rfl) rfl rfl ?_
  refine EV.icmp_ltN (tgt := 14) d_Li_append_9 (by decide) hL.1 rfl (by omega) (by omega) (fun h9 => ?_) (fun h9 => ?_)
  · refine EV.aload_n d_Li_append_14 rfl ?_
    refine EV.getR fl_Li_7 d_Li_append_15 (by first | assumption | rfl) rfl ?_
    refine EV.aload_n d_Li_append_18 rfl ?_
    refine EV.getI fl_Li_13 d_Li_append_19 (by first | assumption | rfl) rfl ?_
    refine EV.iload_n d_Li_append_22 rfl ?_
    refine EV.castN d_Li_append_23 (by first | assumption | rfl) rfl hL.1 (by omega) (by first | decide | omega) ⟨c, hc, rfl⟩ ?_
    refine EV.aload_n d_Li_append_24 rfl ?_
    refine EV.dup d_Li_append_25 rfl ?_
    refine EV.getI fl_Li_13 d_Li_append_26 (by first | assumption | rfl) rfl ?_
    refine EV.iconst (v := nI 1) d_Li_append_29 (by decide) ?_
    refine EV.iadd d_Li_append_30 ?_
    refine EV.top (y := nI (xs.length + 1)) (by rw [mx_w_ne _ _ _ (by omega), hL.1]; exact nI_1 _) ?_
    refine EV.putI fl_Li_13 d_Li_append_31 (by first | assumption | rfl) rfl rfl rfl ?_
    refine EV.iconst (v := nI 1) d_Li_append_34 (by decide) ?_
    exact EV.ireturn d_Li_append_35 ⟨_, rfl, rfl⟩ ⟨fun q q1 q2 => by simp [mx_w, va_up, q1, q2], by rw [bI_t (by simp; omega)], by rw [if_pos (by omega)]; exact ⟨by simp [mx_w, va_up, upd], by simp only [mx_w, va_up]; simp; exact ar_snoc hL.2⟩⟩
  · refine EV.iconst (v := nI 0) d_Li_append_12 (by decide) ?_
    exact EV.ireturn d_Li_append_13 ⟨_, rfl, rfl⟩ ⟨fun _ _ _ => rfl, by rw [bI_f (by simp; omega)], by rw [if_neg (by omega)]; exact hL⟩
set_option maxHeartbeats 4000000 in
set_option maxRecDepth 100000 in
theorem sp_Li_clear {G : mx_G} {d : Nat} {S : List mx_Sh} {D : mx_Mem} {k n : Nat} {xs : List Nat} (hK : ShL S k n) (hL : LN D k xs) : EV G d m_Li_clear 0 (mx_lc0 m_Li_clear [.ref k]) [] S D S (fun rv D' => (∀ q, ¬ q = k → D' q = D q) ∧ rv = some (.int (nI xs.length)) ∧ LN D' k []) := by
  obtain ⟨hk0, hk1⟩ := id hK
  show EV _ _ _ _ [some (.ref k), none] [] _ _ _ _
  refine EV.aload_n d_Li_clear_0 rfl ?_
  refine EV.getI fl_Li_13 d_Li_clear_1 (by first | assumption | rfl) rfl ?_
  refine EV.top hL.1 ?_
  refine EV.istore_n d_Li_clear_4 (by decide) ?_
  refine EV.aload_n d_Li_clear_5 rfl ?_
  refine EV.iconst (v := nI 0) d_Li_clear_6 (by decide) ?_
  refine EV.putI fl_Li_13 d_Li_clear_7 (by first | assumption | rfl) rfl rfl rfl ?_
  refine EV.iload_n d_Li_clear_10 rfl ?_
  exact EV.ireturn d_Li_clear_11 ⟨_, rfl, rfl⟩ ⟨fun q q1 => by simp [mx_w, va_up, q1], rfl, by simp [mx_w, va_up, upd], ar_nil _⟩
set_option maxHeartbeats 4000000 in
set_option maxRecDepth 100000 in
theorem lp_Li_copyFrom {G : mx_G} {d : Nat} {S : List mx_Sh} {D0 : mx_Mem} {k o n n2 : Nat} {ys : List Nat} (hK : ShL S k n) (hO : ShL S o n2) (hko : k + 1 < o ∨ o + 1 < k) (hY : LN D0 o ys) (hle : ys.length ≤ n) (hle2 : ys.length ≤ n2) (hn : n ≤ 24) (hn2 : n2 ≤ 24) (hch : ∀ c ∈ ys, c < 65536) : ∀ (m i : Nat) (D : mx_Mem), i ≤ ys.length → ys.length - i = m → (∀ q, ¬ q = k → ¬ q = k + 1 → D q = D0 q) → LN D k (ys.take i) → EV G (d + 1) m_Li_copyFrom 7 [some (.ref k), some (.ref o), some (.int (nI i))] [] S D S (fun rv D' => rv = none ∧ (∀ q, ¬ q = k → ¬ q = k + 1 → D' q = D0 q) ∧ LN D' k ys) := by
  obtain ⟨hk0, hk1⟩ := id hK
  obtain ⟨ho0, ho1⟩ := id hO
  intro m
  induction m with
  | zero =>
    intro i D h1 h2 hof hL
    have hl : D o 1 = nI ys.length := by rw [hof o (by omega) (by omega)]; exact hY.1
    refine EV.iload_n d_Li_copyFrom_7 rfl ?_
    refine EV.aload_n d_Li_copyFrom_8 rfl ?_
    refine EV.getI fl_Li_13 d_Li_copyFrom_9 (by first | assumption | rfl) rfl ?_
    refine EV.icmp_geN (tgt := 32) d_Li_copyFrom_12 (by decide) rfl hl (by omega) (by omega) (fun h12 => ?_) (fun h12 => ?_)
    · exact EV.return_ d_Li_copyFrom_32 rfl ⟨rfl, hof, by rw [List.take_of_length_le (by omega)] at hL; exact hL⟩
    · exfalso
      omega
  | succ m ih =>
    intro i D h1 h2 hof hL
    have hl : D o 1 = nI ys.length := by rw [hof o (by omega) (by omega)]; exact hY.1
    obtain ⟨c, hc⟩ : ∃ c, ys[i]? = some c := ⟨ys[i]'(by omega), List.getElem?_eq_getElem (by omega)⟩
    have hcv : D (o + 1) i = nI c := by rw [hof (o + 1) (by omega) (by omega)]; exact hY.2 i c hc
    have htl : (ys.take i).length = i := by rw [List.length_take]; omega
    refine EV.iload_n d_Li_copyFrom_7 rfl ?_
    refine EV.aload_n d_Li_copyFrom_8 rfl ?_
    refine EV.getI fl_Li_13 d_Li_copyFrom_9 (by first | assumption | rfl) rfl ?_
    refine EV.icmp_geN (tgt := 32) d_Li_copyFrom_12 (by decide) rfl hl (by omega) (by omega) (fun h12 => ?_) (fun h12 => ?_)
    · exfalso
      omega
    · refine EV.aload_n d_Li_copyFrom_15 rfl ?_
      refine EV.aload_n d_Li_copyFrom_16 rfl ?_
      refine EV.getR fl_Li_7 d_Li_copyFrom_17 (by first | assumption | rfl) rfl ?_
      refine EV.iload_n d_Li_copyFrom_20 rfl ?_
      refine EV.caldN d_Li_copyFrom_21 (by first | assumption | rfl) rfl rfl (by omega) (by first | decide | omega) ?_
      refine EV.top hcv ?_
      refine EV.V1 cv_Li_21 d_Li_copyFrom_22 (by first | assumption | rfl) (sp_Li_append hK hL (by omega) hn (hch c (List.mem_of_getElem? hc))) ⟨Nat.le_refl _, Nat.le_refl _⟩ rfl rfl (Nat.le_of_ble_eq_true rfl) (fun rv D1 hp => ?_)
      obtain ⟨q1, rfl, q2⟩ := hp
      refine EV.pop d_Li_copyFrom_25 rfl ?_
      refine EV.iincN d_Li_copyFrom_26 rfl (by decide) ?_
      refine EV.goto (tgt := 7) d_Li_copyFrom_29 (by decide) ?_
      rw [if_pos (by omega)] at q2
      refine ih (i + 1) D1 (by omega) (by omega) (fun q a b => (q1 q a b).trans (hof q a b)) ?_
      rw [List.take_add_one, hc]
      exact q2
set_option maxHeartbeats 4000000 in
set_option maxRecDepth 100000 in
theorem sp_Li_copyFrom {G : mx_G} {d : Nat} {S : List mx_Sh} {D0 : mx_Mem} {k o n n2 : Nat} {xs ys : List Nat} (hK : ShL S k n) (hO : ShL S o n2) (hko : k + 1 < o ∨ o + 1 < k) (hX : LN D0 k xs) (hY : LN D0 o ys) (hle : ys.length ≤ n) (hle2 : ys.length ≤ n2) (hn : n ≤ 24) (hn2 : n2 ≤ 24) (hch : ∀ c ∈ ys, c < 65536) : EV G (d + 1) m_Li_copyFrom 0 (mx_lc0 m_Li_copyFrom [.ref k, .ref o]) [] S D0 S (fun rv D' => rv = none ∧ (∀ q, ¬ q = k → ¬ q = k + 1 → D' q = D0 q) ∧ LN D' k ys) := by
  obtain ⟨hk0, hk1⟩ := id hK
  obtain ⟨ho0, ho1⟩ := id hO
  show EV _ _ _ _ [some (.ref k), some (.ref o), none] [] _ _ _ _
  refine EV.aload_n d_Li_copyFrom_0 rfl ?_
  refine EV.V0 cv_Li_17 d_Li_copyFrom_1 (by first | assumption | rfl) (sp_Li_clear hK hX) ⟨Nat.le_refl _, Nat.le_refl _⟩ rfl rfl (Nat.le_of_ble_eq_true rfl) (fun rv D1 hp => ?_)
  obtain ⟨q1, rfl, q2⟩ := hp
  refine EV.pop d_Li_copyFrom_4 rfl ?_
  refine EV.iconst (v := nI 0) d_Li_copyFrom_5 (by decide) ?_
  refine EV.istore_n d_Li_copyFrom_6 (by decide) ?_
  refine EV.post (fun rv D' h => ⟨h.1, fun q a b => (h.2.1 q a b).trans (q1 q a), h.2.2⟩) (lp_Li_copyFrom hK hO hko ⟨by rw [q1 o (by omega)]; exact hY.1, by rw [q1 (o + 1) (by omega)]; exact hY.2⟩ hle hle2 hn hn2 hch ys.length 0 D1 (by omega) rfl (fun _ _ _ => rfl) q2)
set_option maxHeartbeats 4000000 in
set_option maxRecDepth 100000 in
theorem sp_Ke_add {G : mx_G} {d : Nat} {S : List mx_Sh} {D : mx_Mem} {k c : Nat} {xs : List Nat} (hK : ShK S k) (hL : LN D k xs) (hle : xs.length < 52) : EV G d m_Ke_add 0 (mx_lc0 m_Ke_add [.ref k, .int (nI c)]) [] S D S (fun rv D' => rv = none ∧ (∀ q, ¬ q = k → ¬ q = k + 1 → D' q = D q) ∧ LN D' k (xs ++ [c])) := by
  obtain ⟨hk0, hk1⟩ := id hK
  show EV _ _ _ _ [some (.ref k), some (.int (nI c))] [] _ _ _ _
  refine EV.aload_n d_Ke_add_0 rfl ?_
  refine EV.getI fl_Ke_15 d_Ke_add_1 (by first | assumption | rfl) rfl ?_
  refine EV.aload_n d_Ke_add_4 rfl ?_
  refine EV.getR fl_Ke_9 d_Ke_add_5 (by first | assumption | rfl) rfl ?_
  refine EV.alen (v := nI 52) d_Ke_add_8 (by first | assumption | rfl) rfl rfl ?_
  refine EV.icmp_geN (tgt := 32) d_Ke_add_9 (by decide) hL.1 rfl (by omega) (by omega) (fun h9 => ?_) (fun h9 => ?_)
  · exfalso
    omega
  · refine EV.aload_n d_Ke_add_12 rfl ?_
    refine EV.getR fl_Ke_9 d_Ke_add_13 (by first | assumption | rfl) rfl ?_
    refine EV.aload_n d_Ke_add_16 rfl ?_
    refine EV.getI fl_Ke_15 d_Ke_add_17 (by first | assumption | rfl) rfl ?_
    refine EV.iload_n d_Ke_add_20 rfl ?_
    refine EV.iastN d_Ke_add_21 (by first | assumption | rfl) rfl hL.1 (by omega) (by first | decide | omega) ?_
    refine EV.aload_n d_Ke_add_22 rfl ?_
    refine EV.dup d_Ke_add_23 rfl ?_
    refine EV.getI fl_Ke_15 d_Ke_add_24 (by first | assumption | rfl) rfl ?_
    refine EV.iconst (v := nI 1) d_Ke_add_27 (by decide) ?_
    refine EV.iadd d_Ke_add_28 ?_
    refine EV.top (y := nI (xs.length + 1)) (by rw [mx_w_ne _ _ _ (by omega), hL.1]; exact nI_1 _) ?_
    refine EV.putI fl_Ke_15 d_Ke_add_29 (by first | assumption | rfl) rfl rfl rfl ?_
    exact EV.return_ d_Ke_add_32 rfl ⟨rfl, fun q q1 q2 => by simp [mx_w, va_up, q1, q2], by simp [mx_w, va_up, upd], by simp only [mx_w, va_up]; simp; exact ar_snoc hL.2⟩
set_option maxHeartbeats 4000000 in
set_option maxRecDepth 100000 in
theorem lp_Ke_against {G : mx_G} {d : Nat} {S : List mx_Sh} {D : mx_Mem} {k o m : Nat} {xs ys : List Nat} {R : Int32} (hK : ShK S k) (hO : ShK S o) (hX : LN D k xs) (hY : LN D o ys) (hm : m = min xs.length ys.length) (hx52 : xs.length ≤ 52) (hy52 : ys.length ≤ 52) (hxs : ∀ x ∈ xs, x < 2 ^ 31) (hys : ∀ y ∈ ys, y < 2 ^ 31) : ∀ (n i : Nat), i ≤ m → m - i = n → ps_cmp (xs.drop i) (ys.drop i) = R → EV G d m_Ke_against 14 [some (.ref k), some (.ref o), some (.int (nI m)), some (.int (nI i))] [] S D S (RI R D) := by
  obtain ⟨hk0, hk1⟩ := id hK
  obtain ⟨ho0, ho1⟩ := id hO
  intro n
  induction n with
  | zero =>
    intro i h1 h2 hR
    refine EV.iload_n d_Ke_against_14 rfl ?_
    refine EV.iload_n d_Ke_against_15 rfl ?_
    refine EV.icmp_geN (tgt := 61) d_Ke_against_16 (by decide) rfl rfl (by omega) (by omega) (fun h16 => ?_) (fun h16 => ?_)
    · refine EV.iconst (v := nI 0) d_Ke_against_61 (by decide) ?_
      exact EV.ireturn d_Ke_against_62 ⟨_, rfl, rfl⟩ ⟨by
        rw [← hR]
        rcases Nat.lt_or_ge i xs.length with q | q
        · rw [List.drop_of_length_le (l := ys) (by omega), ps_cmp_nil]
        · rw [List.drop_of_length_le q]; rfl, rfl⟩
    · exfalso
      omega
  | succ n ih =>
    intro i h1 h2 hR
    obtain ⟨x, hx⟩ : ∃ x, xs[i]? = some x := ⟨xs[i]'(by omega), List.getElem?_eq_getElem (by omega)⟩
    obtain ⟨y, hy⟩ : ∃ y, ys[i]? = some y := ⟨ys[i]'(by omega), List.getElem?_eq_getElem (by omega)⟩
    have hx2 := hxs x (List.mem_of_getElem? hx)
    have hy2 := hys y (List.mem_of_getElem? hy)
    have hxv := hX.2 i x hx
    have hyv := hY.2 i y hy
    have dx : xs.drop i = x :: xs.drop (i + 1) := by rw [List.drop_eq_getElem_cons (by omega), (List.getElem?_eq_some_iff.mp hx).2]
    have dy : ys.drop i = y :: ys.drop (i + 1) := by rw [List.drop_eq_getElem_cons (by omega), (List.getElem?_eq_some_iff.mp hy).2]
    rw [dx, dy, ps_cmp] at hR
    refine EV.iload_n d_Ke_against_14 rfl ?_
    refine EV.iload_n d_Ke_against_15 rfl ?_
    refine EV.icmp_geN (tgt := 61) d_Ke_against_16 (by decide) rfl rfl (by omega) (by omega) (fun h16 => ?_) (fun h16 => ?_)
    · exfalso
      omega
    · refine EV.aload_n d_Ke_against_19 rfl ?_
      refine EV.getR fl_Ke_9 d_Ke_against_20 (by first | assumption | rfl) rfl ?_
      refine EV.iload_n d_Ke_against_23 rfl ?_
      refine EV.ialdN d_Ke_against_24 (by first | assumption | rfl) rfl rfl (by omega) (by first | decide | omega) ?_
      refine EV.aload_n d_Ke_against_25 rfl ?_
      refine EV.getR fl_Ke_9 d_Ke_against_26 (by first | assumption | rfl) rfl ?_
      refine EV.iload_n d_Ke_against_29 rfl ?_
      refine EV.ialdN d_Ke_against_30 (by first | assumption | rfl) rfl rfl (by omega) (by first | decide | omega) ?_
      refine EV.icmp_eqN (tgt := 55) d_Ke_against_31 (by decide) hxv hyv (by omega) (by omega) (fun h31 => ?_) (fun h31 => ?_)
      · refine EV.iincN d_Ke_against_55 rfl (by decide) ?_
        refine EV.goto (tgt := 14) d_Ke_against_58 (by decide) ?_
        rw [if_pos h31] at hR
        exact ih (i + 1) (by omega) (by omega) hR
      · refine EV.aload_n d_Ke_against_34 rfl ?_
        refine EV.getR fl_Ke_9 d_Ke_against_35 (by first | assumption | rfl) rfl ?_
        refine EV.iload_n d_Ke_against_38 rfl ?_
        refine EV.ialdN d_Ke_against_39 (by first | assumption | rfl) rfl rfl (by omega) (by first | decide | omega) ?_
        refine EV.aload_n d_Ke_against_40 rfl ?_
        refine EV.getR fl_Ke_9 d_Ke_against_41 (by first | assumption | rfl) rfl ?_
        refine EV.iload_n d_Ke_against_44 rfl ?_
        refine EV.ialdN d_Ke_against_45 (by first | assumption | rfl) rfl rfl (by omega) (by first | decide | omega) ?_
        refine EV.icmp_geN (tgt := 53) d_Ke_against_46 (by decide) hxv hyv (by omega) (by omega) (fun h46 => ?_) (fun h46 => ?_)
        · refine EV.iconst (v := nI 1) d_Ke_against_53 (by decide) ?_
          exact EV.ireturn d_Ke_against_54 ⟨_, rfl, rfl⟩ ⟨by rw [← hR, if_neg h31]; first | rw [if_pos (by omega)] | rw [if_neg (by omega)], rfl⟩
        · refine EV.iconst (v := (-1)) d_Ke_against_49 (by decide) ?_
          refine EV.goto (tgt := 54) d_Ke_against_50 (by decide) ?_
          exact EV.ireturn d_Ke_against_54 ⟨_, rfl, rfl⟩ ⟨by rw [← hR, if_neg h31]; first | rw [if_pos (by omega)] | rw [if_neg (by omega)], rfl⟩
set_option maxHeartbeats 4000000 in
set_option maxRecDepth 100000 in
theorem sp_Ke_against {G : mx_G} {d : Nat} {S : List mx_Sh} {D : mx_Mem} {k o : Nat} {xs ys : List Nat} (hK : ShK S k) (hO : ShK S o) (hX : LN D k xs) (hY : LN D o ys) (hx52 : xs.length ≤ 52) (hy52 : ys.length ≤ 52) (hxs : ∀ x ∈ xs, x < 2 ^ 31) (hys : ∀ y ∈ ys, y < 2 ^ 31) : EV G (d + 1) m_Ke_against 0 (mx_lc0 m_Ke_against [.ref k, .ref o]) [] S D S (RI (ps_cmp xs ys) D) := by
  obtain ⟨hk0, hk1⟩ := id hK
  obtain ⟨ho0, ho1⟩ := id hO
  show EV _ _ _ _ [some (.ref k), some (.ref o), none, none] [] _ _ _ _
  refine EV.aload_n d_Ke_against_0 rfl ?_
  refine EV.getI fl_Ke_15 d_Ke_against_1 (by first | assumption | rfl) rfl ?_
  refine EV.aload_n d_Ke_against_4 rfl ?_
  refine EV.getI fl_Ke_15 d_Ke_against_5 (by first | assumption | rfl) rfl ?_
  refine EV.mmin (mx_in 452 (by decide +kernel) (by decide +kernel)) mx_mm d_Ke_against_8 rfl (Nat.le_of_ble_eq_true rfl) ?_
  refine EV.top (y := nI (min xs.length ys.length)) (by
    rw [hX.1, hY.1]
    by_cases q : ys.length < xs.length
    · rw [if_pos ((nI_ltI (by omega) (by omega)).mpr q), Nat.min_eq_right (by omega)]
    · rw [if_neg (fun z => q ((nI_ltI (by omega) (by omega)).mp z)), Nat.min_eq_left (by omega)]) ?_
  refine EV.istore_n d_Ke_against_11 (by decide) ?_
  refine EV.iconst (v := nI 0) d_Ke_against_12 (by decide) ?_
  refine EV.istore_n d_Ke_against_13 (by decide) ?_
  exact lp_Ke_against hK hO hX hY rfl hx52 hy52 hxs hys (min xs.length ys.length) 0 (by omega) rfl rfl
set_option maxHeartbeats 4000000 in
set_option maxRecDepth 100000 in
theorem sp_Ru_sign {G : mx_G} {d : Nat} {S : List mx_Sh} {D : mx_Mem} {r x : Nat} (hR : ShR S r) : EV G d m_Ru_sign 0 (mx_lc0 m_Ru_sign [.ref r, .int (nI x)]) [] S D S (fun rv D' => rv = some (.int (nI 1)) ∧ (∀ q, ¬ q = r → D' q = D q) ∧ D' r 2 = D r 2 ∧ D' r 3 = nI 1 ∧ D' r 4 = nI x) := by
  obtain ⟨hr0, hr1, hr2⟩ := id hR
  show EV _ _ _ _ [some (.ref r), some (.int (nI x))] [] _ _ _ _
  refine EV.aload_n d_Ru_sign_0 rfl ?_
  refine EV.iconst (v := nI 1) d_Ru_sign_1 (by decide) ?_
  refine EV.putI fl_Ru_22 d_Ru_sign_2 (by first | assumption | rfl) rfl rfl rfl ?_
  refine EV.aload_n d_Ru_sign_5 rfl ?_
  refine EV.iload_n d_Ru_sign_6 rfl ?_
  refine EV.putI fl_Ru_25 d_Ru_sign_7 (by first | assumption | rfl) rfl rfl rfl ?_
  refine EV.iconst (v := nI 1) d_Ru_sign_10 (by decide) ?_
  exact EV.ireturn d_Ru_sign_11 ⟨_, rfl, rfl⟩ ⟨rfl, fun q q1 => by simp [mx_w, va_up, q1], by simp [mx_w, va_up, upd], by simp [mx_w, va_up, upd], by simp [mx_w, va_up, upd]⟩
set_option maxHeartbeats 4000000 in
set_option maxRecDepth 100000 in
theorem sp_Ru_begin {G : mx_G} {d : Nat} {S : List mx_Sh} {D : mx_Mem} {r c : Nat} {q : ru_Q} (hR : ShR S r) (hQ : RuS D r q) (hl : q.2.2.length < 24) (hc : c < 128) : EV G d m_Ru_begin 0 (mx_lc0 m_Ru_begin [.ref r, .int (nI c)]) [] S D S (fun rv D' => rv = some (.int (nI 1)) ∧ (∀ k, ¬ k = r → ¬ k = r + 1 → ¬ k = r + 2 → D' k = D k) ∧ RuS D' r (2, q.2.1, q.2.2 ++ [([c], q.2.1)])) := by
  obtain ⟨hr0, hr1, hr2⟩ := id hR
  show EV _ _ _ _ [some (.ref r), some (.int (nI c))] [] _ _ _ _
  refine EV.aload_n d_Ru_begin_0 rfl ?_
  refine EV.getI fl_Ru_18 d_Ru_begin_1 (by first | assumption | rfl) rfl ?_
  refine EV.bipush (v := nI 24) d_Ru_begin_4 (by decide) ?_
  refine EV.icmp_ltN (tgt := 11) d_Ru_begin_6 (by decide) hQ.1 rfl (by omega) (by omega) (fun h6 => ?_) (fun h6 => ?_)
  · refine EV.aload_n d_Ru_begin_11 rfl ?_
    refine EV.getR fl_Ru_9 d_Ru_begin_12 (by first | assumption | rfl) rfl ?_
    refine EV.aload_n d_Ru_begin_15 rfl ?_
    refine EV.getI fl_Ru_18 d_Ru_begin_16 (by first | assumption | rfl) rfl ?_
    refine EV.iload_n d_Ru_begin_19 rfl ?_
    refine EV.iastN d_Ru_begin_20 (by first | assumption | rfl) rfl hQ.1 (by omega) (by first | decide | omega) ?_
    refine EV.aload_n d_Ru_begin_21 rfl ?_
    refine EV.getR fl_Ru_15 d_Ru_begin_22 (by first | assumption | rfl) rfl ?_
    refine EV.aload_n d_Ru_begin_25 rfl ?_
    refine EV.getI fl_Ru_18 d_Ru_begin_26 (by first | assumption | rfl) rfl ?_
    refine EV.aload_n d_Ru_begin_29 rfl ?_
    refine EV.getI fl_Ru_25 d_Ru_begin_30 (by first | assumption | rfl) rfl ?_
    refine EV.top (y := nI q.2.1) (by rw [mx_w_ne _ _ _ (by omega)]; exact hQ.2.2.1) ?_
    refine EV.iastN d_Ru_begin_33 (by first | assumption | rfl) rfl (by rw [mx_w_ne _ _ _ (by omega)]; exact hQ.1) (by omega) (by first | decide | omega) ?_
    refine EV.aload_n d_Ru_begin_34 rfl ?_
    refine EV.dup d_Ru_begin_35 rfl ?_
    refine EV.getI fl_Ru_18 d_Ru_begin_36 (by first | assumption | rfl) rfl ?_
    refine EV.iconst (v := nI 1) d_Ru_begin_39 (by decide) ?_
    refine EV.iadd d_Ru_begin_40 ?_
    refine EV.top (y := nI (q.2.2.length + 1)) (by rw [mx_w_ne _ _ _ (by omega), mx_w_ne _ _ _ (by omega), hQ.1]; exact nI_1 _) ?_
    refine EV.putI fl_Ru_18 d_Ru_begin_41 (by first | assumption | rfl) rfl rfl rfl ?_
    refine EV.aload_n d_Ru_begin_44 rfl ?_
    refine EV.iconst (v := nI 2) d_Ru_begin_45 (by decide) ?_
    refine EV.putI fl_Ru_22 d_Ru_begin_46 (by first | assumption | rfl) rfl rfl rfl ?_
    refine EV.iconst (v := nI 1) d_Ru_begin_49 (by decide) ?_
    have e1 : ps_enc 256 [c] = c := by simp [ps_enc]
    have hs := TBf_snoc (e := ([c], q.2.1)) hQ.2.2.2
    rw [e1] at hs
    exact EV.ireturn d_Ru_begin_50 ⟨_, rfl, rfl⟩ ⟨rfl, fun k k1 k2 k3 => by simp [mx_w, va_up, k1, k2, k3], by simp [mx_w, va_up, upd], by simp [mx_w, va_up, upd], by simp [mx_w, va_up, upd]; exact hQ.2.2.1, by simp only [mx_w, va_up]; simp; exact hs⟩
  · refine EV.iconst (v := nI 0) d_Ru_begin_9 (by decide) ?_
    exact EV.ireturn d_Ru_begin_10 ⟨_, rfl, rfl⟩ (absurd hl (by omega))
set_option maxHeartbeats 4000000 in
set_option maxRecDepth 100000 in
theorem lp_Ru_goOn {G : mx_G} {d : Nat} {S : List mx_Sh} {D : mx_Mem} {r c : Nat} {q : ru_Q} {e : List Nat × Nat} (hR : ShR S r) (hQ : RuS D r q) (hq : q.1 = 2) (hl : q.2.2.length ≤ 24) (hl1 : 1 ≤ q.2.2.length) (hso : ps_so e.1) (he : q.2.2[q.2.2.length - 1]? = some e) (hc : 0 < c ∧ c < 128) : EV G (d + 1) m_Ru_goOn 27 [some (.ref r), some (.int (nI c)), some (.int (nI (q.2.2.length - 1))), some (.int (bI (ps_letter c || ps_mark c))), none] [] S D S (fun rv D' => (∀ k, ¬ k = r → ¬ k = r + 1 → ¬ k = r + 2 → D' k = D k) ∧ oR (ru_go q c) (rv = some (.int (nI 0))) (fun q' => rv = some (.int (nI 1)) ∧ RuS D' r q')) := by
  obtain ⟨hr0, hr1, hr2⟩ := id hR
  have hb := ps_enc_b (Or.inr rfl) hso
  have hlt := ps_enc_lt (b := 256) (s := e.1) (fun x hx => by have := (hso.2.2 x hx).2; omega)
  have hev := (hQ.2.2.2 _ e he).1
  have hlen := ps_len_enc hso
  have hsl := hso.1
  have hsu := hso.2.1
  refine EV.iload_n d_Ru_goOn_27 rfl ?_
  refine EV.if_eqB (tgt := 35) d_Ru_goOn_28 (by decide) (fun h28 => ?_) (fun h28 => ?_)
  · refine EV.iconst (v := nI 0) d_Ru_goOn_35 (by decide) ?_
    exact EV.ireturn d_Ru_goOn_36 ⟨_, rfl, rfl⟩ ⟨fun _ _ _ _ => rfl, oR_n (by unfold ru_go; rw [he]; dsimp only; rw [if_neg (by simp [h28])]) rfl⟩
  refine EV.iload_n d_Ru_goOn_31 rfl ?_
  refine EV.if_geN (tgt := 37) d_Ru_goOn_32 rfl (by omega) (by decide) ?_
  refine EV.aload_n d_Ru_goOn_37 rfl ?_
  refine EV.getR fl_Ru_9 d_Ru_goOn_38 (by first | assumption | rfl) rfl ?_
  refine EV.iload_n d_Ru_goOn_41 rfl ?_
  refine EV.ialdN d_Ru_goOn_42 (by first | assumption | rfl) rfl rfl (by omega) (by first | decide | omega) ?_
  refine EV.top hev ?_
  refine EV.T1 cs_Ru_57 d_Ru_goOn_43 (sp_To_lengthOf (by omega)) ⟨Nat.le_refl _, Nat.le_refl _⟩ rfl rfl (Nat.le_of_ble_eq_true rfl) (fun rv D1 hp => ?_)
  obtain ⟨rfl, hD⟩ := hp
  obtain rfl := hD.symm
  rw [hlen]
  refine EV.istore d_Ru_goOn_46 (by decide) ?_
  refine EV.iload d_Ru_goOn_48 rfl ?_
  refine EV.iconst (v := nI 3) d_Ru_goOn_50 (by decide) ?_
  refine EV.icmp_ltN (tgt := 56) d_Ru_goOn_51 (by decide) rfl rfl (by omega) (by omega) (fun h51 => ?_) (fun h51 => ?_)
  · refine EV.aload_n d_Ru_goOn_56 rfl ?_
    refine EV.getR fl_Ru_9 d_Ru_goOn_57 (by first | assumption | rfl) rfl ?_
    refine EV.iload_n d_Ru_goOn_60 rfl ?_
    refine EV.aload_n d_Ru_goOn_61 rfl ?_
    refine EV.getR fl_Ru_9 d_Ru_goOn_62 (by first | assumption | rfl) rfl ?_
    refine EV.iload_n d_Ru_goOn_65 rfl ?_
    refine EV.ialdN d_Ru_goOn_66 (by first | assumption | rfl) rfl rfl (by omega) (by first | decide | omega) ?_
    refine EV.top hev ?_
    refine EV.iload d_Ru_goOn_67 rfl ?_
    refine EV.iload_n d_Ru_goOn_69 rfl ?_
    refine EV.T3 cs_Ru_61 d_Ru_goOn_70 (sp_To_joined (by have := hso.1; omega) hlt hc.2) ⟨Nat.le_refl _, Nat.le_refl _⟩ rfl rfl (Nat.le_of_ble_eq_true rfl) (fun rv D1 hp => ?_)
    obtain ⟨rfl, hD⟩ := hp
    obtain rfl := hD.symm
    refine EV.iastN d_Ru_goOn_73 (by first | assumption | rfl) rfl rfl (by omega) (by first | decide | omega) ?_
    refine EV.iconst (v := nI 1) d_Ru_goOn_74 (by decide) ?_
    exact EV.ireturn d_Ru_goOn_75 ⟨_, rfl, rfl⟩ ⟨fun k k1 k2 k3 => by simp [mx_w, va_up, k2], by
      refine oR_s (q := (2, q.2.1, q.2.2.set (q.2.2.length - 1) (e.1 ++ [c], e.2))) (by unfold ru_go; rw [he]; dsimp only; rw [if_pos ⟨h28, by omega⟩]) ⟨rfl, ?_, ?_, ?_, ?_⟩
      · simp [mx_w, va_up]; exact hQ.1
      · simp [mx_w, va_up]; rw [← hq]; exact hQ.2.1
      · simp [mx_w, va_up]; exact hQ.2.2.1
      · have := TBf_set (e' := (e.1 ++ [c], e.2)) hQ.2.2.2 he rfl
        rw [ps_enc_snoc] at this
        simp only [mx_w, va_up]
        simp
        exact this⟩
  · refine EV.iconst (v := nI 0) d_Ru_goOn_54 (by decide) ?_
    exact EV.ireturn d_Ru_goOn_55 ⟨_, rfl, rfl⟩ ⟨fun _ _ _ _ => rfl, oR_n (by unfold ru_go; rw [he]; dsimp only; rw [if_neg (by omega)]) rfl⟩
set_option maxHeartbeats 4000000 in
set_option maxRecDepth 100000 in
theorem sp_Ru_goOn {G : mx_G} {d : Nat} {S : List mx_Sh} {D : mx_Mem} {r c : Nat} {q : ru_Q} (hR : ShR S r) (hQ : RuS D r q) (hq : q.1 = 2) (hl : q.2.2.length ≤ 24) (hl1 : 1 ≤ q.2.2.length) (hso : ∀ e ∈ q.2.2, ps_so e.1) (hc : 0 < c ∧ c < 128) : EV G (d + 1) m_Ru_goOn 0 (mx_lc0 m_Ru_goOn [.ref r, .int (nI c)]) [] S D S (fun rv D' => (∀ k, ¬ k = r → ¬ k = r + 1 → ¬ k = r + 2 → D' k = D k) ∧ oR (ru_go q c) (rv = some (.int (nI 0))) (fun q' => rv = some (.int (nI 1)) ∧ RuS D' r q')) := by
  obtain ⟨hr0, hr1, hr2⟩ := id hR
  obtain ⟨e, he⟩ : ∃ e, q.2.2[q.2.2.length - 1]? = some e := ⟨q.2.2[q.2.2.length - 1]'(by omega), List.getElem?_eq_getElem (by omega)⟩
  have K := lp_Ru_goOn (G := G) (d := d) hR hQ hq hl hl1 (hso e (List.mem_of_getElem? he)) he hc
  show EV _ _ _ _ [some (.ref r), some (.int (nI c)), none, none, none] [] _ _ _ _
  refine EV.aload_n d_Ru_goOn_0 rfl ?_
  refine EV.getI fl_Ru_18 d_Ru_goOn_1 (by first | assumption | rfl) rfl ?_
  refine EV.iconst (v := nI 1) d_Ru_goOn_4 (by decide) ?_
  refine EV.isub d_Ru_goOn_5 ?_
  refine EV.top (y := nI (q.2.2.length - 1)) (by rw [hQ.1]; exact pk_sub hl1) ?_
  refine EV.istore_n d_Ru_goOn_6 (by decide) ?_
  refine EV.iload_n d_Ru_goOn_7 rfl ?_
  refine EV.T1 cs_Ru_45 d_Ru_goOn_8 (sp_To_isLetter (by omega)) ⟨Nat.le_refl _, Nat.le_refl _⟩ rfl rfl (Nat.le_of_ble_eq_true rfl) (fun rv D1 hp => ?_)
  obtain ⟨rfl, hD⟩ := hp
  obtain rfl := hD.symm
  refine EV.if_neB (tgt := 21) d_Ru_goOn_11 (by decide) (fun h11 => ?_) (fun h11 => ?_)
  · have eb : bI (ps_letter c || ps_mark c) = nI 1 := bI_t (by simp [h11])
    rw [eb] at K
    refine EV.iconst (v := nI 1) d_Ru_goOn_21 (by decide) ?_
    refine EV.goto (tgt := 26) d_Ru_goOn_22 (by decide) ?_
    refine EV.istore_n d_Ru_goOn_26 (by decide) ?_
    exact K
  refine EV.iload_n d_Ru_goOn_14 rfl ?_
  refine EV.T1 cs_Ru_54 d_Ru_goOn_15 (sp_To_isMark (by omega)) ⟨Nat.le_refl _, Nat.le_refl _⟩ rfl rfl (Nat.le_of_ble_eq_true rfl) (fun rv D1 hp => ?_)
  obtain ⟨rfl, hD⟩ := hp
  obtain rfl := hD.symm
  refine EV.if_eqB (tgt := 25) d_Ru_goOn_18 (by decide) (fun h18 => ?_) (fun h18 => ?_)
  · have eb : bI (ps_letter c || ps_mark c) = nI 0 := bI_f (by simp [h11, h18])
    rw [eb] at K
    refine EV.iconst (v := nI 0) d_Ru_goOn_25 (by decide) ?_
    refine EV.istore_n d_Ru_goOn_26 (by decide) ?_
    exact K
  · have eb : bI (ps_letter c || ps_mark c) = nI 1 := bI_t (by simp [h18])
    rw [eb] at K
    refine EV.iconst (v := nI 1) d_Ru_goOn_21 (by decide) ?_
    refine EV.goto (tgt := 26) d_Ru_goOn_22 (by decide) ?_
    refine EV.istore_n d_Ru_goOn_26 (by decide) ?_
    exact K
