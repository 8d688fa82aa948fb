/-! texts and their elements, keys: no machine here -/
def ps_put (p c : Nat) (l : List Nat) : List Nat := l.take p ++ c :: l.drop p
theorem ps_put_at {p c j : Nat} {l : List Nat} (hp : p ≤ l.length) : (ps_put p c l)[j]? = if j < p then l[j]? else if j = p then some c else l[j - 1]? := by
  unfold ps_put
  have hl : (l.take p).length = p := by rw [List.length_take]; omega
  by_cases h1 : j < p
  · rw [if_pos h1, List.getElem?_append_left (by omega), List.getElem?_take, if_pos h1]
  · rw [if_neg h1, List.getElem?_append_right (by omega), hl]
    by_cases h2 : j = p
    · subst h2; simp
    · rw [if_neg h2, show j - p = (j - 1 - p) + 1 by omega, List.getElem?_cons_succ, List.getElem?_drop]
      congr 1
      omega
theorem ps_put_len {p c : Nat} {l : List Nat} (hp : p ≤ l.length) : (ps_put p c l).length = l.length + 1 := by
  unfold ps_put
  rw [List.length_append, List.length_cons, List.length_take, List.length_drop]
  omega
theorem ar_put {f : Nat → Int32} {l : List Nat} {p c : Nat} (h : ar f l) (hp : p ≤ l.length) : ar (fx_ins f p (nI c) l.length) (ps_put p c l) := by
  intro j x hj
  have hl : j < l.length + 1 := by rw [← ps_put_len (c := c) hp]; exact (List.getElem?_eq_some_iff.mp hj).1
  rw [ps_put_at hp] at hj
  unfold fx_ins upd fx_sh
  by_cases h1 : j < p
  · rw [if_pos h1] at hj
    rw [if_neg (by omega), if_neg (by omega)]
    exact h j x hj
  · rw [if_neg h1] at hj
    by_cases h2 : j = p
    · rw [if_pos h2] at hj
      cases hj
      rw [if_pos h2]
    · rw [if_neg h2] at hj
      rw [if_neg h2, if_pos (by omega)]
      exact h _ x hj
theorem ps_ins_put {c : Nat} : ∀ (r : List Nat) (q : Nat), q ≤ r.length → (∀ j x, j < q → r[j]? = some x → ps_must c x = true) → (∀ x, r[q]? = some x → ps_must c x = false) → ps_ins c r = ps_put q c r := by
  intro r
  induction r with
  | nil => intro q h _ _; simp at h; subst h; rfl
  | cons b t ih =>
    intro q h1 h2 h3
    cases q with
    | zero =>
      have := h3 b rfl
      simp [ps_ins, this, ps_put]
    | succ q =>
      have h4 := h2 0 b (by omega) rfl
      have := ih q (by simpa using h1) (fun j x hj hx => h2 (j + 1) x (by omega) (by simpa using hx)) (fun x hx => h3 x (by simpa using hx))
      simp [ps_ins, h4, this, ps_put]
theorem ps_arr_snoc (xs : List Nat) (c : Nat) : ps_arr (xs ++ [c]) = (ps_ins c (ps_arr xs).reverse).reverse := by
  unfold ps_arr ps_fold
  rw [List.foldl_append]
  simp
theorem ps_arr_put {xs : List Nat} {c p : Nat} (hp : p ≤ (ps_arr xs).length) (h2 : ∀ j x, p ≤ j → (ps_arr xs)[j]? = some x → ps_must c x = true) (h3 : p = 0 ∨ ∃ x, (ps_arr xs)[p - 1]? = some x ∧ ps_must c x = false) : ps_arr (xs ++ [c]) = ps_put p c (ps_arr xs) := by
  rw [ps_arr_snoc]
  generalize hl : ps_arr xs = l at hp h2 h3
  have e : ∀ j, j < l.length → l.reverse[j]? = l[l.length - 1 - j]? := fun j hj => by rw [List.getElem?_reverse hj]
  rw [ps_ins_put l.reverse (l.length - p) (by rw [List.length_reverse]; omega) (fun j x hj hx => by
      rw [e j (by omega)] at hx
      exact h2 _ x (by omega) hx) (fun x hx => by
      have hq : l.length - p < l.length := by
        have := (List.getElem?_eq_some_iff.mp hx).1
        rw [List.length_reverse] at this
        exact this
      rw [e _ hq] at hx
      rcases h3 with h3 | ⟨y, h3, h4⟩
      · omega
      · rw [show l.length - 1 - (l.length - p) = p - 1 by omega, h3] at hx
        cases hx
        exact h4)]
  unfold ps_put
  rw [List.reverse_append, List.reverse_cons, List.take_reverse, List.drop_reverse, List.reverse_reverse, List.reverse_reverse, show l.length - (l.length - p) = p by omega]
  simp
theorem ps_arr_len (xs : List Nat) : (ps_arr xs).length = xs.length := by
  have h : ∀ (l acc : List Nat), (ps_fold acc l).length = acc.length + l.length := by
    intro l
    induction l with
    | nil => intro acc; simp [ps_fold]
    | cons c r ih =>
      intro acc
      have hi : ∀ a : List Nat, (ps_ins c a).length = a.length + 1 := by
        intro a
        induction a with
        | nil => rfl
        | cons b t ih2 => simp only [ps_ins]; split <;> simp [ih2]
      show (ps_fold (ps_ins c acc) r).length = _
      rw [ih, hi, List.length_cons]
      omega
  unfold ps_arr
  rw [List.length_reverse, h]
  simp
theorem ps_ins_mem {c x : Nat} : ∀ (l : List Nat), x ∈ ps_ins c l ↔ x = c ∨ x ∈ l := by
  intro l
  induction l with
  | nil => simp [ps_ins]
  | cons b t ih =>
    simp only [ps_ins]
    split
    · rw [List.mem_cons, ih, List.mem_cons]
      constructor
      · rintro (h | h | h)
        · exact Or.inr (Or.inl h)
        · exact Or.inl h
        · exact Or.inr (Or.inr h)
      · rintro (h | h | h)
        · exact Or.inr (Or.inl h)
        · exact Or.inl h
        · exact Or.inr (Or.inr h)
    · rw [List.mem_cons, List.mem_cons]
theorem ps_arr_mem {x : Nat} (xs : List Nat) : x ∈ ps_arr xs ↔ x ∈ xs := by
  have h : ∀ (l acc : List Nat), x ∈ ps_fold acc l ↔ x ∈ acc ∨ x ∈ l := by
    intro l
    induction l with
    | nil => intro acc; simp [ps_fold]
    | cons c r ih =>
      intro acc
      show x ∈ ps_fold (ps_ins c acc) r ↔ _
      rw [ih, ps_ins_mem, List.mem_cons]
      constructor
      · rintro ((h | h) | h)
        · exact Or.inr (Or.inl h)
        · exact Or.inl h
        · exact Or.inr (Or.inr h)
      · rintro (h | h | h)
        · exact Or.inl (Or.inr h)
        · exact Or.inl (Or.inl h)
        · exact Or.inr h
  unfold ps_arr
  rw [List.mem_reverse, h]
  simp
/-- the first string: the longest of the table with which the text begins -/
def ps_first (tb : ps_T) (l : List Nat) : List Nat := if (ps_idx tb (l.take 3)).isSome then l.take 3 else if (ps_idx tb (l.take 2)).isSome then l.take 2 else l.take 1
def ps_blk (ps : List Nat) (m : Nat) : Bool := ps.any (fun x => ps_cls x == ps_cls m)
/-- the marks behind a string: those that lengthen it, those that are passed over -/
def ps_abs (tb : ps_T) (s ps : List Nat) : List Nat → List Nat × List Nat × List Nat
  | [] => (s, ps, [])
  | m :: r => if ps_mark m = true then (if ps_blk ps m = false ∧ s.length < 3 ∧ (ps_idx tb (s ++ [m])).isSome = true then ps_abs tb (s ++ [m]) ps r else ps_abs tb s (ps ++ [m]) r) else (s, ps, m :: r)
abbrev ps_E : Type := Nat × Nat × Nat × Nat
def ps_isv (s : List Nat) : Bool := decide (s = [32]) || decide (s = [45])
def ps_stp (tb : ps_T) (i : Nat) : Nat := (tb.map Prod.snd).getD i 0
/-- the weights of the entry with the string s -/
def ps_wof (tb : ps_T) (s : List Nat) : Nat × Nat × Nat := ps_wt (ps_stp tb) ((ps_idx tb s).getD 0 + 1)
def el_e (tb : ps_T) (sh : Bool) (s : List Nat) : ps_E := if (sh && ps_isv s) = true then (0, 0, 0, (ps_wof tb s).1) else ((ps_wof tb s).1, (ps_wof tb s).2.1, (ps_wof tb s).2.2, if sh then 1000 else 0)
def el_m (c : Nat) : ps_E := (0, 100 + c - 48, 1, 0)
def el_ms (sh v : Bool) (ps : List Nat) : List ps_E := if (sh && v) = true then [] else ps.map el_m
def ps_els (tb : ps_T) (sh : Bool) : Nat → Bool → List Nat → List ps_E
  | 0, _, _ => []
  | _ + 1, _, [] => []
  | n + 1, v, c :: r => if ps_mark c = true then el_ms sh v [c] ++ ps_els tb sh n v r else
      let s0 := ps_first tb (c :: r)
      let a := ps_abs tb s0 [] ((c :: r).drop s0.length)
      el_e tb sh a.1 :: (el_ms sh (ps_isv a.1) a.2.1 ++ ps_els tb sh n (ps_isv a.1) a.2.2)
def ps_lv (e : ps_E) (k : Nat) : Nat := match k with
  | 0 => e.1
  | 1 => e.2.1
  | 2 => e.2.2.1
  | _ => e.2.2.2
def ps_row (bw : Bool) (es : List ps_E) (k : Nat) : List Nat := ((if (bw && decide (k = 1)) = true then es.reverse else es).map (fun e => ps_lv e k)).filter (fun w => decide (w ≠ 0)) ++ [0]
def ps_key (bw : Bool) (es : List ps_E) : Nat → List Nat
  | 0 => []
  | n + 1 => ps_key bw es n ++ ps_row bw es n
