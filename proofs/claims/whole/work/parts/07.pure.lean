/-! PURE: strings, marks, arranging. No machine here. -/
def ps_letter (c : Nat) : Bool := (decide (97 ≤ c) && decide (c ≤ 104)) || (decide (65 ≤ c) && decide (c ≤ 72))
def ps_mark (c : Nat) : Bool := decide (49 ≤ c) && decide (c ≤ 52)
def ps_var (c : Nat) : Bool := decide (c = 32) || decide (c = 45)
def ps_cls (c : Nat) : Nat := if c ≤ 50 then 1 else 2
def ps_enc (b : Nat) : List Nat → Nat
  | [] => 0
  | c :: r => c + b * ps_enc b r
theorem ps_enc_inj {b : Nat} : ∀ {s t : List Nat}, (∀ c ∈ s, 0 < c ∧ c < b) → (∀ c ∈ t, 0 < c ∧ c < b) → ps_enc b s = ps_enc b t → s = t := by
  intro s
  induction s with
  | nil =>
    intro t _ ht h
    cases t with
    | nil => rfl
    | cons c r =>
      have := ht c List.mem_cons_self
      simp only [ps_enc] at h
      omega
  | cons a u ih =>
    intro t hs ht h
    cases t with
    | nil =>
      have := hs a List.mem_cons_self
      simp only [ps_enc] at h
      omega
    | cons c r =>
      have h1 := hs a List.mem_cons_self
      have h2 := ht c List.mem_cons_self
      simp only [ps_enc] at h
      have e1 : (a + b * ps_enc b u) % b = a := by rw [Nat.add_mul_mod_self_left, Nat.mod_eq_of_lt h1.2]
      have e2 : (c + b * ps_enc b r) % b = c := by rw [Nat.add_mul_mod_self_left, Nat.mod_eq_of_lt h2.2]
      have e3 : a = c := by rw [← e1, h, e2]
      subst e3
      have e4 : b * ps_enc b u = b * ps_enc b r := by omega
      have e5 : ps_enc b u = ps_enc b r := Nat.eq_of_mul_eq_mul_left (by omega) e4
      rw [ih (fun x hx => hs x (List.mem_cons_of_mem _ hx)) (fun x hx => ht x (List.mem_cons_of_mem _ hx)) e5]
theorem ps_enc_snoc (b : Nat) (s : List Nat) (c : Nat) : ps_enc b (s ++ [c]) = ps_enc b s + c * b ^ s.length := by
  induction s with
  | nil => simp [ps_enc]
  | cons a u ih =>
    simp only [List.cons_append, ps_enc, ih, List.length_cons, Nat.pow_succ, Nat.mul_add]
    rw [show c * (b ^ u.length * b) = b * (c * b ^ u.length) by rw [Nat.mul_comm (b ^ u.length) b, Nat.mul_left_comm]]
    omega
theorem ps_enc_lt {b : Nat} : ∀ {s : List Nat}, (∀ c ∈ s, c < b) → ps_enc b s < b ^ s.length := by
  intro s
  induction s with
  | nil => intro _; simp [ps_enc]
  | cons a u ih =>
    intro h
    have h1 := h a List.mem_cons_self
    have h2 := ih (fun x hx => h x (List.mem_cons_of_mem _ hx))
    simp only [ps_enc, List.length_cons, Nat.pow_succ]
    have h3 : b * (ps_enc b u + 1) ≤ b * b ^ u.length := Nat.mul_le_mul_left b h2
    rw [Nat.mul_add] at h3
    rw [Nat.mul_comm (b ^ u.length) b]
    omega
/-! arranging: a mark of the first kind goes ahead of marks of the second -/
def ps_must (c b : Nat) : Bool := ps_mark c && ps_mark b && decide (ps_cls c < ps_cls b)
def ps_ins (c : Nat) : List Nat → List Nat
  | [] => [c]
  | b :: r => if ps_must c b then b :: ps_ins c r else c :: b :: r
def ps_fold (acc : List Nat) (l : List Nat) : List Nat := l.foldl (fun acc c => ps_ins c acc) acc
def ps_arr (l : List Nat) : List Nat := (ps_fold [] l).reverse
def ps_pass : List Nat → List Nat
  | [] => []
  | [a] => [a]
  | a :: b :: r => if ps_must b a then b :: ps_pass (a :: r) else a :: ps_pass (b :: r)
termination_by l => l.length
def ps_it : Nat → List Nat → List Nat
  | 0, l => l
  | n + 1, l => ps_it n (ps_pass l)
theorem ps_cls_or (c : Nat) : ps_cls c = 1 ∨ ps_cls c = 2 := by unfold ps_cls; split <;> simp
theorem ps_must_c {a b : Nat} (h : ps_must b a = true) : ps_mark b = true ∧ ps_mark a = true ∧ ps_cls b = 1 ∧ ps_cls a = 2 := by
  unfold ps_must at h
  simp only [Bool.and_eq_true, decide_eq_true_eq] at h
  have h1 := ps_cls_or a
  have h2 := ps_cls_or b
  refine ⟨h.1.1, h.1.2, ?_, ?_⟩ <;> omega
theorem ps_ins2 {a : Nat} (h : ps_cls a = 2) (acc : List Nat) : ps_ins a acc = a :: acc := by
  cases acc with
  | nil => rfl
  | cons b r =>
    have : ps_must a b = false := by
      have h1 := ps_cls_or b
      unfold ps_must
      simp only [Bool.and_eq_false_iff, decide_eq_false_iff_not]
      right
      omega
    simp [ps_ins, this]
theorem ps_fold_pass (l : List Nat) : ∀ acc, ps_fold acc (ps_pass l) = ps_fold acc l := by
  induction l using ps_pass.induct with
  | case1 => intro acc; simp [ps_pass]
  | case2 a => intro acc; simp [ps_pass]
  | case3 a b r h ih =>
    intro acc
    rw [ps_pass, if_pos h]
    have hc := ps_must_c h
    show ps_fold (ps_ins b acc) (ps_pass (a :: r)) = ps_fold (ps_ins b (ps_ins a acc)) r
    rw [ih]
    show ps_fold (ps_ins a (ps_ins b acc)) r = _
    rw [ps_ins2 hc.2.2.2, ps_ins2 hc.2.2.2]
    simp [ps_ins, h]
  | case4 a b r h ih =>
    intro acc
    rw [ps_pass, if_neg h]
    show ps_fold (ps_ins a acc) (ps_pass (b :: r)) = _
    rw [ih]
    rfl
def ps_h : Nat → List Nat → Nat
  | _, [] => 0
  | c, x :: r => if ps_mark x then (if ps_cls x = 1 then max c (ps_h c r) else ps_h (c + 1) r) else ps_h 0 r
theorem ps_pass_ab (l : List Nat) : ps_h 0 (ps_pass l) ≤ ps_h 0 l - 1 ∧ ∀ a r, l = a :: r → ps_mark a = true → ps_cls a = 2 → ∀ c, ps_h c (ps_pass l) ≤ ps_h (c + 1) r - 1 := by
  induction l using ps_pass.induct with
  | case1 => exact ⟨by simp [ps_pass, ps_h], fun a r h => by cases h⟩
  | case2 a =>
    refine ⟨?_, fun a' r h hm hc c => ?_⟩
    · simp only [ps_pass, ps_h]
      split
      · split <;> simp
      · simp
    · cases h
      simp [ps_pass, ps_h, hm, hc]
  | case3 a b r h ih =>
    have hc := ps_must_c h
    have hB : ∀ a' r', a :: b :: r = a' :: r' → ps_mark a' = true → ps_cls a' = 2 → ∀ c, ps_h c (ps_pass (a :: b :: r)) ≤ ps_h (c + 1) r' - 1 := by
      intro a' r' e _ _ c
      cases e
      rw [ps_pass, if_pos h]
      have h2 := ih.2 a r rfl hc.2.1 hc.2.2.2 c
      simp only [ps_h, hc.1, hc.2.2.1, if_true]
      omega
    refine ⟨?_, hB⟩
    have h3 := hB a (b :: r) rfl hc.2.1 hc.2.2.2 0
    have h4 : ps_h 0 (a :: b :: r) = ps_h 1 (b :: r) := by rw [ps_h]; simp [hc.2.1, hc.2.2.2]
    rw [h4]
    exact h3
  | case4 a b r h ih =>
    have e : ps_pass (a :: b :: r) = a :: ps_pass (b :: r) := by rw [ps_pass, if_neg h]
    have hB : ∀ a' r', a :: b :: r = a' :: r' → ps_mark a' = true → ps_cls a' = 2 → ∀ c, ps_h c (ps_pass (a :: b :: r)) ≤ ps_h (c + 1) r' - 1 := by
      intro a' r' e' hm hc c
      cases e'
      rw [e]
      have e2 : ps_h c (a :: ps_pass (b :: r)) = ps_h (c + 1) (ps_pass (b :: r)) := by rw [ps_h]; simp [hm, hc]
      rw [e2]
      by_cases hbm : ps_mark b = true
      · have hbc : ps_cls b = 2 := by
          rcases ps_cls_or b with h1 | h1
          · exfalso
            apply h
            unfold ps_must
            simp [hbm, hm, h1, hc]
          · exact h1
        have h2 := ih.2 b r rfl hbm hbc (c + 1)
        have e3 : ps_h (c + 1) (b :: r) = ps_h (c + 1 + 1) r := by rw [ps_h]; simp [hbm, hbc]
        rw [e3]
        exact h2
      · have h2 := ih.1
        have e3 : ∀ n, ps_h n (b :: r) = ps_h 0 r := fun n => by rw [ps_h]; simp [hbm]
        have e4 : ∀ n, ps_h n (ps_pass (b :: r)) = ps_h 0 (ps_pass (b :: r)) := by
          intro n
          cases r with
          | nil => simp [ps_pass, ps_h, hbm]
          | cons d r =>
            have hmb : ¬ ps_must d b = true := fun h9 => hbm (ps_must_c h9).2.1
            rw [ps_pass, if_neg hmb, ps_h, ps_h]
            simp [hbm]
        rw [e3, e4]
        rw [e3] at h2
        exact h2
    refine ⟨?_, hB⟩
    by_cases ham : ps_mark a = true
    · rcases ps_cls_or a with h1 | h1
      · rw [e]
        have h2 := ih.1
        have e2 : ∀ l, ps_h 0 (a :: l) = ps_h 0 l := fun l => by rw [ps_h]; simp [ham, h1]
        rw [e2, e2]
        exact h2
      · have h3 := hB a (b :: r) rfl ham h1 0
        have h4 : ps_h 0 (a :: b :: r) = ps_h 1 (b :: r) := by rw [ps_h]; simp [ham, h1]
        rw [h4]
        exact h3
    · rw [e]
      have h2 := ih.1
      have e2 : ∀ l, ps_h 0 (a :: l) = ps_h 0 l := fun l => by rw [ps_h]; simp [ham]
      rw [e2, e2]
      exact h2
theorem ps_h_le : ∀ (l : List Nat) (c : Nat), ps_h c l ≤ c + l.length := by
  intro l
  induction l with
  | nil => intro c; simp [ps_h]
  | cons x r ih =>
    intro c
    have h1 := ih c
    have h2 := ih (c + 1)
    have h3 := ih 0
    simp only [ps_h, List.length_cons]
    split
    · split <;> omega
    · omega
theorem ps_it_h : ∀ (n : Nat) (l : List Nat), ps_h 0 l ≤ n → ps_h 0 (ps_it n l) = 0 := by
  intro n
  induction n with
  | zero => intro l h; simp only [ps_it]; omega
  | succ n ih =>
    intro l h
    rw [ps_it]
    exact ih _ (by have := (ps_pass_ab l).1; omega)
theorem ps_it_fold : ∀ (n : Nat) (l : List Nat), ps_fold [] (ps_it n l) = ps_fold [] l := by
  intro n
  induction n with
  | zero => intro l; rfl
  | succ n ih => intro l; rw [ps_it, ih, ps_fold_pass]
/-- what is in order stays as it is -/
theorem ps_fold_ok : ∀ (l acc : List Nat) (c : Nat), ps_h c l = 0 → (∀ b r, acc = b :: r → ps_mark b = true → ps_cls b = 2 → 0 < c) → ps_fold acc l = l.reverse ++ acc := by
  intro l
  induction l with
  | nil => intro acc c _ _; rfl
  | cons x r ih =>
    intro acc c h hacc
    have hx : ps_ins x acc = x :: acc := by
      cases acc with
      | nil => rfl
      | cons b t =>
        by_cases hm : ps_must x b = true
        · exfalso
          have hc := ps_must_c hm
          have h0 := hacc b t rfl hc.2.1 hc.2.2.2
          rw [ps_h] at h
          simp only [hc.1, hc.2.2.1, if_true] at h
          omega
        · simp [ps_ins, hm]
    show ps_fold (ps_ins x acc) r = _
    rw [hx, List.reverse_cons, List.append_assoc]
    rw [ps_h] at h
    by_cases hm : ps_mark x = true
    · rw [if_pos hm] at h
      by_cases hc : ps_cls x = 1
      · rw [if_pos hc] at h
        exact ih (x :: acc) c (by omega) (fun b t e hb hb2 => by cases e; omega)
      · rw [if_neg hc] at h
        exact ih (x :: acc) (c + 1) h (fun b t e hb hb2 => by omega)
    · rw [if_neg hm] at h
      exact ih (x :: acc) 0 h (fun b t e hb hb2 => by cases e; exact absurd hb hm)
theorem ps_it_arr (l : List Nat) : ps_it l.length l = ps_arr l := by
  have h1 : ps_h 0 (ps_it l.length l) = 0 := ps_it_h _ _ (by have := ps_h_le l 0; omega)
  have h2 := ps_fold_ok (ps_it l.length l) [] 0 h1 (fun b r e => by cases e)
  rw [ps_it_fold] at h2
  unfold ps_arr
  rw [h2]
  simp
