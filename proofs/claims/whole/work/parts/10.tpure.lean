/-! the table as a list of strings with steps -/
abbrev ps_T : Type := List (List Nat × Nat)
def ps_so (s : List Nat) : Prop := 1 ≤ s.length ∧ s.length ≤ 3 ∧ ∀ c ∈ s, 0 < c ∧ c < 128
def ps_ok (tb : ps_T) : Prop := (∀ e ∈ tb, ps_so e.1 ∧ 1 ≤ e.2 ∧ e.2 ≤ 4) ∧ tb.length ≤ 30 ∧ ∀ (i j : Nat) (a b : List Nat × Nat), tb[i]? = some a → tb[j]? = some b → a.1 = b.1 → i = j
def TBf (b : Nat) (f g : Nat → Int32) (tb : ps_T) : Prop := ∀ (i : Nat) (e : List Nat × Nat), tb[i]? = some e → f i = nI (ps_enc b e.1) ∧ g i = nI e.2
def ps_idx (tb : ps_T) (s : List Nat) : Option Nat := tb.findIdx? (fun e => e.1 == s)
def ps_has (tb : ps_T) (s : List Nat) : Prop := ∃ e ∈ tb, e.1 = s
theorem ps_enc_b {b : Nat} (hb : b = 128 ∨ b = 256) {s : List Nat} (hs : ps_so s) : ps_enc b s < 2 ^ 24 := by
  have h1 : ps_enc b s < b ^ s.length := ps_enc_lt (fun c hc => by have := (hs.2.2 c hc).2; omega)
  have h2 : b ^ s.length ≤ b ^ 3 := Nat.pow_le_pow_right (by omega) hs.2.1
  rcases hb with rfl | rfl <;> omega
theorem ps_nI_eq {b : Nat} (hb : b = 128 ∨ b = 256) {s u : List Nat} (hs : ps_so s) (hu : ps_so u) : nI (ps_enc b s) = nI (ps_enc b u) ↔ s = u := by
  have h1 := ps_enc_b hb hs
  have h2 := ps_enc_b hb hu
  rw [nI_eq (by omega) (by omega)]
  constructor
  · exact ps_enc_inj (fun c hc => by have := hs.2.2 c hc; omega) (fun c hc => by have := hu.2.2 c hc; omega)
  · intro h; rw [h]
theorem ps_idx_some {tb : ps_T} {s : List Nat} {i : Nat} : ps_idx tb s = some i ↔ (∃ e, tb[i]? = some e ∧ e.1 = s) ∧ ∀ j e, j < i → tb[j]? = some e → ¬ e.1 = s := by
  unfold ps_idx
  rw [List.findIdx?_eq_some_iff_getElem]
  constructor
  · rintro ⟨h, h1, h2⟩
    refine ⟨⟨tb[i], List.getElem?_eq_getElem h, by simpa using h1⟩, fun j e hj he => ?_⟩
    obtain ⟨hl, rfl⟩ := List.getElem?_eq_some_iff.mp he
    simpa using h2 j hj
  · rintro ⟨⟨e, he, h1⟩, h2⟩
    obtain ⟨hl, rfl⟩ := List.getElem?_eq_some_iff.mp he
    refine ⟨hl, by simpa using h1, fun j hj => ?_⟩
    simpa using h2 j tb[j] hj (List.getElem?_eq_getElem _)
theorem ps_idx_none {tb : ps_T} {s : List Nat} : ps_idx tb s = none ↔ ¬ ps_has tb s := by
  unfold ps_idx ps_has
  rw [List.findIdx?_eq_none_iff]
  constructor
  · rintro h ⟨e, he, q⟩
    have := h e he
    rw [q] at this
    simp at this
  · intro h e he
    cases hq : (e.1 == s) with
    | false => rfl
    | true => exact absurd ⟨e, he, by simpa using hq⟩ h
theorem ps_idx_lt {tb : ps_T} {s : List Nat} {i : Nat} (h : ps_idx tb s = some i) : i < tb.length := by
  obtain ⟨⟨e, he, -⟩, -⟩ := ps_idx_some.mp h
  exact (List.getElem?_eq_some_iff.mp he).1
theorem Fnd_idx {b : Nat} (hb : b = 128 ∨ b = 256) {f g : Nat → Int32} {tb : ps_T} {s : List Nat} {r : Int32} (hok : ∀ e ∈ tb, ps_so e.1) (hT : TBf b f g tb) (hs : ps_so s) (h : Fnd f (nI (ps_enc b s)) tb.length r) : (∃ i, ps_idx tb s = some i ∧ i < tb.length ∧ r = nI i) ∨ (ps_idx tb s = none ∧ r = -1) := by
  have key : ∀ i e, tb[i]? = some e → (f i = nI (ps_enc b s) ↔ e.1 = s) := fun i e he => by
    rw [(hT i e he).1]
    exact ps_nI_eq hb (hok e (List.mem_of_getElem? he)) hs
  rcases h with ⟨i, h1, h2, h3, h4⟩ | ⟨h1, h2⟩
  · left
    have hi := List.getElem?_eq_getElem h1
    refine ⟨i, ps_idx_some.mpr ⟨⟨tb[i], hi, (key i _ hi).mp h2⟩, fun j e hj he q => h3 j hj ((key j e he).mpr q)⟩, h1, h4⟩
  · right
    refine ⟨ps_idx_none.mpr ?_, h2⟩
    rintro ⟨e, he, q⟩
    obtain ⟨i, hi⟩ := List.getElem?_of_mem he
    exact h1 i (List.getElem?_eq_some_iff.mp hi).1 ((key i e hi).mpr q)
/-- entry i goes; the one behind it takes the lesser step -/
def ps_out (tb : ps_T) (i : Nat) : ps_T := match tb[i]?, tb[i + 1]? with
  | some a, some b => (tb.set (i + 1) (b.1, min a.2 b.2)).eraseIdx i
  | _, _ => tb.eraseIdx i
theorem ps_out_at {tb : ps_T} {i j : Nat} (hi : i < tb.length) : (ps_out tb i)[j]? = if j < i then tb[j]? else if j = i then (tb[i + 1]?).map (fun b => (b.1, min (tb[i].2) b.2)) else tb[j + 1]? := by
  unfold ps_out
  rw [List.getElem?_eq_getElem hi]
  cases h : tb[i + 1]? with
  | none =>
    have hl : tb.length ≤ i + 1 := by simpa using h
    simp only [List.getElem?_eraseIdx, Option.map_none]
    by_cases h1 : j < i
    · simp [h1]
    · by_cases h2 : j = i
      · subst h2; simp; omega
      · simp [h1, h2]
  | some b =>
    simp only [List.getElem?_eraseIdx, Option.map_some]
    by_cases h1 : j < i
    · simp only [h1, if_true]
      rw [List.getElem?_set_ne (by omega)]
    · by_cases h2 : j = i
      · subst h2
        have hl : j + 1 < tb.length := (List.getElem?_eq_some_iff.mp h).1
        simp [hl]
      · simp only [h1, h2, if_false]
        rw [List.getElem?_set_ne (by omega)]
theorem ps_out_len {tb : ps_T} {i : Nat} (hi : i < tb.length) : (ps_out tb i).length = tb.length - 1 := by
  unfold ps_out
  split <;> simp [List.length_eraseIdx, hi]
theorem TBf_out {b : Nat} {f g : Nat → Int32} {tb : ps_T} {i : Nat} (hok : ps_ok tb) (hT : TBf b f g tb) (hi : i < tb.length) : TBf b (fx_dl f i tb.length) (fx_dl (fx_mn g i tb.length) i tb.length) (ps_out tb i) := by
  intro j e he
  have hl : j < tb.length - 1 := by rw [← ps_out_len hi]; exact (List.getElem?_eq_some_iff.mp he).1
  rw [ps_out_at hi] at he
  unfold fx_dl
  by_cases h1 : j < i
  · rw [if_pos h1] at he
    rw [if_neg (by omega), if_neg (by omega)]
    refine ⟨(hT j e he).1, ?_⟩
    rw [← (hT j e he).2]
    unfold fx_mn
    split
    · unfold upd; rw [if_neg (by omega)]
    · rfl
  · rw [if_neg h1] at he
    rw [if_pos (by omega), if_pos (by omega)]
    by_cases h2 : j = i
    · subst h2
      rw [if_pos rfl] at he
      have h3 : tb[j + 1]? = some tb[j + 1] := List.getElem?_eq_getElem (by omega)
      have h4 : tb[j]? = some tb[j] := List.getElem?_eq_getElem hi
      rw [h3] at he
      cases he
      refine ⟨(hT _ _ h3).1, ?_⟩
      have b1 := (hok.1 _ (List.mem_of_getElem? h3)).2
      have b2 := (hok.1 _ (List.mem_of_getElem? h4)).2
      unfold fx_mn
      rw [if_pos (by omega)]
      unfold upd
      rw [if_pos rfl, (hT _ _ h3).2, (hT _ _ h4).2]
      show _ = nI (min tb[j].2 tb[j + 1].2)
      by_cases h5 : tb[j + 1].2 < tb[j].2
      · rw [if_pos ((nI_ltI (by omega) (by omega)).mpr h5), Nat.min_eq_right (by omega)]
      · rw [if_neg (fun q => h5 ((nI_ltI (by omega) (by omega)).mp q)), Nat.min_eq_left (by omega)]
    · rw [if_neg h2] at he
      refine ⟨(hT _ e he).1, ?_⟩
      rw [← (hT _ e he).2]
      unfold fx_mn
      split
      · unfold upd; rw [if_neg (by omega)]
      · rfl
theorem ps_ins_at {tb : ps_T} {p j : Nat} {e : List Nat × Nat} (hp : p ≤ tb.length) : (tb.insertIdx p e)[j]? = if j < p then tb[j]? else if j = p then some e else tb[j - 1]? := by
  rw [List.getElem?_insertIdx]
  by_cases h1 : j < p
  · simp [h1]
  · by_cases h2 : j = p
    · subst h2; simp [hp]
    · simp [h1, h2]
theorem TBf_in {b : Nat} {f g : Nat → Int32} {tb : ps_T} {p y : Nat} {s : List Nat} (hT : TBf b f g tb) (hp : p ≤ tb.length) : TBf b (fx_ins f p (nI (ps_enc b s)) tb.length) (fx_ins g p (nI y) tb.length) (tb.insertIdx p (s, y)) := by
  intro j e he
  have hl : j < tb.length + 1 := by
    have := (List.getElem?_eq_some_iff.mp he).1
    rw [List.length_insertIdx_of_le_length hp] at this
    exact this
  rw [ps_ins_at hp] at he
  unfold fx_ins upd fx_sh
  by_cases h1 : j < p
  · rw [if_pos h1] at he
    rw [if_neg (by omega), if_neg (by omega), if_neg (by omega), if_neg (by omega)]
    exact hT j e he
  · rw [if_neg h1] at he
    by_cases h2 : j = p
    · subst h2
      rw [if_pos rfl] at he
      cases he
      rw [if_pos rfl, if_pos rfl]
      exact ⟨rfl, rfl⟩
    · rw [if_neg h2] at he
      rw [if_neg h2, if_neg h2, if_pos (by omega), if_pos (by omega)]
      exact hT _ e he
def ps_pl (y : Nat) : ps_T → Nat
  | [] => 0
  | e :: r => if y < e.2 then ps_pl y r + 1 else 0
theorem ps_pl_un (y : Nat) : ∀ (l : ps_T) (q : Nat), q ≤ l.length → (∀ j e, j < q → l[j]? = some e → y < e.2) → (∀ e, l[q]? = some e → ¬ y < e.2) → q = ps_pl y l := by
  intro l
  induction l with
  | nil => intro q h _ _; simp at h; exact h
  | cons e r ih =>
    intro q h1 h2 h3
    cases q with
    | zero =>
      have := h3 e rfl
      simp [ps_pl, this]
    | succ q =>
      have h4 := h2 0 e (by omega) rfl
      have := ih q (by simpa using h1) (fun j e' hj he => h2 (j + 1) e' (by omega) (by simpa using he)) (fun e' he => h3 e' (by simpa using he))
      simp [ps_pl, h4, ← this]
theorem Plc_pl {b : Nat} {f g : Nat → Int32} {tb : ps_T} {a p y : Nat} (hok : ps_ok tb) (hT : TBf b f g tb) (hy : y < 2 ^ 31) (h : Plc g (nI y) a tb.length p) : p = a + ps_pl y (tb.drop a) := by
  obtain ⟨h1, h2, h3, h4⟩ := h
  have key : ∀ j e, tb[j]? = some e → (nI y < g j ↔ y < e.2) := fun j e he => by
    have b1 := (hok.1 _ (List.mem_of_getElem? he)).2
    rw [(hT j e he).2]
    exact nI_ltI hy (by omega)
  have := ps_pl_un y (tb.drop a) (p - a) (by simp; omega) (fun j e hj he => by
    rw [List.getElem?_drop] at he
    exact (key _ e he).mp (h3 (a + j) (by omega) (by omega))) (fun e he q => by
    rw [List.getElem?_drop] at he
    have e1 : a + (p - a) = p := by omega
    rw [e1] at he
    exact h4 (List.getElem?_eq_some_iff.mp he).1 ((key _ e he).mpr q))
  omega
theorem ps_pl_le (y : Nat) : ∀ l : ps_T, ps_pl y l ≤ l.length := by
  intro l
  induction l with
  | nil => simp [ps_pl]
  | cons e r ih => simp only [ps_pl, List.length_cons]; split <;> omega
def ps_rm (tb : ps_T) (s : List Nat) : ps_T := match ps_idx tb s with
  | some i => ps_out tb i
  | none => tb
def ps_mv2 (tb1 : ps_T) (s a : List Nat) (y : Nat) : Int32 ⊕ ps_T := if 30 ≤ tb1.length then .inl (-102) else match ps_idx tb1 a with
  | some j => .inr (tb1.insertIdx (j + 1 + ps_pl y (tb1.drop (j + 1))) (s, y))
  | none => .inl 0
/-- one sign and string: the refusal's number, or the table behind it -/
def ps_move (tb : ps_T) (s a : List Nat) (y : Nat) : Int32 ⊕ ps_T := if s = a then .inl (-101) else ps_mv2 (ps_rm tb s) s a y
def ps_foll (tb : ps_T) (a : List Nat) : ps_T → Int32 ⊕ ps_T
  | [] => .inr tb
  | e :: r => match ps_move tb e.1 a e.2 with
    | .inl c => .inl c
    | .inr tb' => ps_foll tb' e.1 r
theorem ps_out_mem {tb : ps_T} {i : Nat} (hi : i < tb.length) {e : List Nat × Nat} (h : e ∈ ps_out tb i) : ∃ e' ∈ tb, e'.1 = e.1 ∧ (e.2 = e'.2 ∨ ∃ e'' ∈ tb, e.2 = min e''.2 e'.2) := by
  obtain ⟨j, hj⟩ := List.getElem?_of_mem h
  rw [ps_out_at hi] at hj
  by_cases h1 : j < i
  · rw [if_pos h1] at hj
    exact ⟨e, List.mem_of_getElem? hj, rfl, Or.inl rfl⟩
  · rw [if_neg h1] at hj
    by_cases h2 : j = i
    · rw [if_pos h2] at hj
      cases h3 : tb[i + 1]? with
      | none => rw [h3] at hj; cases hj
      | some b =>
        rw [h3] at hj
        cases hj
        exact ⟨b, List.mem_of_getElem? h3, rfl, Or.inr ⟨tb[i], List.getElem_mem hi, rfl⟩⟩
    · rw [if_neg h2] at hj
      exact ⟨e, List.mem_of_getElem? hj, rfl, Or.inl rfl⟩
theorem ps_out_str {tb : ps_T} {i j : Nat} {e : List Nat × Nat} (hi : i < tb.length) (h : (ps_out tb i)[j]? = some e) : ∃ e', tb[if j < i then j else j + 1]? = some e' ∧ e'.1 = e.1 := by
  rw [ps_out_at hi] at h
  by_cases h1 : j < i
  · rw [if_pos h1] at h ⊢
    exact ⟨e, h, rfl⟩
  · rw [if_neg h1] at h ⊢
    by_cases h2 : j = i
    · subst h2
      rw [if_pos rfl] at h
      cases h3 : tb[j + 1]? with
      | none => rw [h3] at h; cases h
      | some b => rw [h3] at h; cases h; exact ⟨b, rfl, rfl⟩
    · rw [if_neg h2] at h
      exact ⟨e, h, rfl⟩
theorem ps_out_ok {tb : ps_T} {i : Nat} (hok : ps_ok tb) (hi : i < tb.length) : ps_ok (ps_out tb i) := by
  refine ⟨fun e he => ?_, ?_, fun j k a b ha hb hab => ?_⟩
  · obtain ⟨e', h1, h2, h3⟩ := ps_out_mem hi he
    have q := hok.1 e' h1
    rw [← h2]
    refine ⟨q.1, ?_⟩
    rcases h3 with h3 | ⟨e'', h4, h3⟩
    · rw [h3]; exact q.2
    · have q2 := (hok.1 e'' h4).2
      omega
  · rw [ps_out_len hi]
    have := hok.2.1
    omega
  · obtain ⟨a', ha', ea⟩ := ps_out_str hi ha
    obtain ⟨b', hb', eb⟩ := ps_out_str hi hb
    have := hok.2.2 _ _ a' b' ha' hb' (by rw [ea, eb]; exact hab)
    split at this <;> split at this <;> omega
theorem ps_out_has {tb : ps_T} {i : Nat} {s u : List Nat} (h : ps_idx tb s = some i) (hne : ¬ u = s) (hu : ps_has tb u) : ps_has (ps_out tb i) u := by
  have hi := ps_idx_lt h
  obtain ⟨⟨e0, he0, hs0⟩, -⟩ := ps_idx_some.mp h
  obtain ⟨e, he, rfl⟩ := hu
  obtain ⟨j, hj⟩ := List.getElem?_of_mem he
  have hji : ¬ j = i := fun q => by
    subst q
    rw [he0] at hj
    cases hj
    exact hne hs0
  by_cases h1 : j < i
  · exact ⟨e, List.mem_of_getElem? (i := j) (by rw [ps_out_at hi, if_pos h1]; exact hj), rfl⟩
  · by_cases h2 : j = i + 1
    · refine ⟨(e.1, min (tb[i].2) e.2), List.mem_of_getElem? (i := i) ?_, rfl⟩
      rw [ps_out_at hi, if_neg (by omega), if_pos rfl, ← h2, hj]
      rfl
    · refine ⟨e, List.mem_of_getElem? (i := j - 1) ?_, rfl⟩
      rw [ps_out_at hi, if_neg (by omega), if_neg (by omega), show j - 1 + 1 = j by omega]
      exact hj
theorem ps_out_not {tb : ps_T} {i : Nat} {s : List Nat} (hok : ps_ok tb) (h : ps_idx tb s = some i) : ¬ ps_has (ps_out tb i) s := by
  rintro ⟨e, he, q⟩
  have hi := ps_idx_lt h
  obtain ⟨⟨e0, he0, hs0⟩, -⟩ := ps_idx_some.mp h
  obtain ⟨j, hj⟩ := List.getElem?_of_mem he
  obtain ⟨e', h1, h2⟩ := ps_out_str hi hj
  have := hok.2.2 _ _ e' e0 h1 he0 (by rw [h2, q, hs0])
  split at this <;> omega
theorem ps_in_ok {tb : ps_T} {p y : Nat} {s : List Nat} (hok : ps_ok tb) (hp : p ≤ tb.length) (hl : tb.length < 30) (hs : ps_so s) (hy : 1 ≤ y ∧ y ≤ 4) (hn : ¬ ps_has tb s) : ps_ok (tb.insertIdx p (s, y)) := by
  refine ⟨fun e he => ?_, ?_, fun i j a b ha hb hab => ?_⟩
  · rcases (List.mem_insertIdx hp).mp he with rfl | he
    · exact ⟨hs, hy⟩
    · exact hok.1 e he
  · rw [List.length_insertIdx_of_le_length hp]
    omega
  · rw [ps_ins_at hp] at ha hb
    have key : ∀ k c, (if k < p then tb[k]? else if k = p then some (s, y) else tb[k - 1]?) = some c → (k = p ∧ c = (s, y)) ∨ (¬ k = p ∧ tb[if k < p then k else k - 1]? = some c) := by
      intro k c hc
      by_cases h1 : k < p
      · rw [if_pos h1] at hc ⊢
        exact Or.inr ⟨by omega, hc⟩
      · rw [if_neg h1] at hc ⊢
        by_cases h2 : k = p
        · rw [if_pos h2] at hc
          cases hc
          exact Or.inl ⟨h2, rfl⟩
        · rw [if_neg h2] at hc
          exact Or.inr ⟨h2, hc⟩
    rcases key i a ha with ⟨i1, ia⟩ | ⟨i1, ia⟩ <;> rcases key j b hb with ⟨j1, jb⟩ | ⟨j1, jb⟩
    · omega
    · exfalso
      subst ia
      exact hn ⟨b, List.mem_of_getElem? jb, hab.symm⟩
    · exfalso
      subst jb
      exact hn ⟨a, List.mem_of_getElem? ia, hab⟩
    · have := hok.2.2 _ _ a b ia jb hab
      split at this <;> split at this <;> omega
theorem ps_rm_ok {tb : ps_T} {s : List Nat} (hok : ps_ok tb) : ps_ok (ps_rm tb s) ∧ ¬ ps_has (ps_rm tb s) s ∧ ∀ u, ¬ u = s → ps_has tb u → ps_has (ps_rm tb s) u := by
  unfold ps_rm
  cases hi : ps_idx tb s with
  | none => exact ⟨hok, ps_idx_none.mp hi, fun _ _ h => h⟩
  | some i => exact ⟨ps_out_ok hok (ps_idx_lt hi), ps_out_not hok hi, fun u hu h => ps_out_has hi hu h⟩
theorem ps_move_ok {tb tb' : ps_T} {s a : List Nat} {y : Nat} (hok : ps_ok tb) (hs : ps_so s) (hy : 1 ≤ y ∧ y ≤ 4) (h : ps_move tb s a y = .inr tb') : ps_ok tb' ∧ ps_has tb' s ∧ ∀ u, ps_has tb u → ps_has tb' u := by
  unfold ps_move at h
  split at h
  · cases h
  · have hk := ps_rm_ok (s := s) hok
    generalize ps_rm tb s = tb1 at h hk
    unfold ps_mv2 at h
    split at h
    · cases h
    · split at h
      · rename_i j hj
        cases h
        have hjl := ps_idx_lt hj
        have hp : j + 1 + ps_pl y (tb1.drop (j + 1)) ≤ tb1.length := by
          have := ps_pl_le y (tb1.drop (j + 1))
          rw [List.length_drop] at this
          omega
        have hmem : ∀ e, e ∈ tb1.insertIdx (j + 1 + ps_pl y (tb1.drop (j + 1))) (s, y) ↔ e = (s, y) ∨ e ∈ tb1 := fun e => List.mem_insertIdx hp
        refine ⟨ps_in_ok hk.1 hp (by omega) hs hy hk.2.1, ⟨(s, y), (hmem _).mpr (Or.inl rfl), rfl⟩, fun u hu => ?_⟩
        by_cases hus : u = s
        · exact ⟨(s, y), (hmem _).mpr (Or.inl rfl), hus.symm⟩
        · obtain ⟨e, he, q⟩ := hk.2.2 u hus hu
          exact ⟨e, (hmem _).mpr (Or.inr he), q⟩
      · cases h
theorem ps_has_idx {tb : ps_T} {a : List Nat} (h : ps_has tb a) : ∃ i, ps_idx tb a = some i := by
  cases q : ps_idx tb a with
  | none => exact absurd h (ps_idx_none.mp q)
  | some i => exact ⟨i, rfl⟩
theorem ps_move_neg {tb : ps_T} {s a : List Nat} {y : Nat} {c : Int32} (hok : ps_ok tb) (ha : ps_has tb a) (h : ps_move tb s a y = .inl c) : c = -101 ∨ c = -102 := by
  unfold ps_move at h
  split at h
  · cases h; exact Or.inl rfl
  · rename_i hne
    have hk := (ps_rm_ok (s := s) hok).2.2 a (fun q => hne q.symm) ha
    obtain ⟨j, hj⟩ := ps_has_idx hk
    unfold ps_mv2 at h
    rw [hj] at h
    split at h
    · cases h; exact Or.inr rfl
    · cases h
