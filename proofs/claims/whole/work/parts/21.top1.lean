/-! the component as a whole: its cells are 0 to 79 -/
def SH (S : List mx_Sh) : Prop := S[0]? = some (.inl (6, [some (some 1), some (some 2), some (some 13), some (some 19), some (some 25), some (some 28), some (some 36)])) ∧ S[1]? = some (.inr (.inr (2, [some 3, some 7, some 11]))) ∧ S[2]? = some (.inr (.inr (3, [some 5, some 9]))) ∧ (ShL S 3 12 ∧ ShL S 7 12 ∧ ShL S 11 24) ∧ (ShK S 5 ∧ ShK S 9) ∧ (ShT S 13 ∧ ShT S 19) ∧ ShR S 25 ∧ ShM S 28 13 ∧ ShF S 36
/-- lines, table, form (strength, shifted, backward), file, next number -/
abbrev sg : Type := (Nat → List Nat) × ps_T × (Nat × Bool × Bool) × ps_F × Nat
def CI (D : mx_Mem) (σ : sg) : Prop := (LN D 3 (σ.1 0) ∧ LN D 7 (σ.1 1) ∧ LN D 11 (σ.1 2)) ∧ TBw D 13 σ.2.1 ∧ (D 28 7 = nI σ.2.2.1.1 ∧ D 28 8 = bI σ.2.2.1.2.1 ∧ D 28 9 = bI σ.2.2.1.2.2) ∧ FO D 36 σ.2.2.2.1 ∧ D 36 4 = nI σ.2.2.2.2
def ps_txt (c : Nat) : Bool := ps_letter c || ps_var c || ps_mark c
def ps_to (xs : List Nat) : Prop := xs.length ≤ 12 ∧ ∀ c ∈ xs, ps_txt c = true
def SI (σ : sg) : Prop := (ps_to (σ.1 0) ∧ ps_to (σ.1 1)) ∧ ((σ.1 2).length ≤ 24 ∧ ∀ c ∈ σ.1 2, 32 ≤ c ∧ c ≤ 126) ∧ ps_ok σ.2.1 ∧ (∀ c, (ps_letter c || ps_var c) = true → ps_has σ.2.1 [c]) ∧ (1 ≤ σ.2.2.1.1 ∧ σ.2.2.1.1 ≤ 4) ∧ (σ.2.2.2.1.length ≤ 10 ∧ (∀ e ∈ σ.2.2.2.1, ps_to e.2 ∧ e.1 < σ.2.2.2.2) ∧ ∀ (i j : Nat) (a b : Nat × List Nat), σ.2.2.2.1[i]? = some a → σ.2.2.2.1[j]? = some b → a.1 = b.1 → i = j)
theorem ps_txt_c {c : Nat} (h : ps_txt c = true) : 32 ≤ c ∧ c < 128 := by
  unfold ps_txt ps_letter ps_var ps_mark at h
  simp at h
  omega
theorem ps_to_tx {tb : ps_T} {xs : List Nat} (h : ps_to xs) (hs : ∀ c, (ps_letter c || ps_var c) = true → ps_has tb [c]) : ps_tx tb xs :=
  ⟨h.1, fun c hc => by have := ps_txt_c (h.2 c hc); omega, fun c hc hm => hs c (by have := h.2 c hc; unfold ps_txt at this; rw [hm, Bool.or_false] at this; exact this)⟩
theorem ps_to_12 {xs : List Nat} (h : ps_to xs) : ps_t12 xs := ⟨h.1, fun c hc => by have := ps_txt_c (h.2 c hc); omega⟩
/-- the key of a text as the form is -/
def sg_k (σ : sg) (xs : List Nat) : List Nat := ps_kt σ.2.1 σ.2.2.1.2.1 σ.2.2.1.2.2 σ.2.2.1.1 xs
def sg_ks (σ : sg) : List (List Nat) := σ.2.2.2.1.map (fun e => sg_k σ e.2)
def sg_up (σ : sg) (j : Nat) (xs : List Nat) : sg := (fun i => if i = j then xs else σ.1 i, σ.2)
theorem CI_kept {D D' : mx_Mem} {σ : sg} (h : CI D σ) (hl : σ.2.2.2.1.length ≤ 10) (hF : ∀ q, (q < 28 ∨ 35 < q) → q < 80 → ¬ q = 5 → ¬ q = 6 → ¬ q = 9 → ¬ q = 10 → (∀ j, j < 10 → ¬ q = 42 + 4 * j ∧ ¬ q = 43 + 4 * j) → D' q = D q) (hm : ∀ j, ¬ j = 4 → ¬ j = 5 → ¬ j = 6 → D' 28 j = D 28 j) : CI D' σ := by
  obtain ⟨⟨h1, h2, h3⟩, h4, ⟨h5, h6, h7⟩, h8, h9⟩ := h
  have g : ∀ q, (q < 28 ∨ 35 < q) → q < 42 → ¬ q = 5 → ¬ q = 6 → ¬ q = 9 → ¬ q = 10 → D' q = D q := fun q a b c d e f => hF q a (by omega) c d e f (fun j _ => by omega)
  refine ⟨⟨LN_kept h1 (g 3 (by omega) (by omega) (by omega) (by omega) (by omega) (by omega)) (g 4 (by omega) (by omega) (by omega) (by omega) (by omega) (by omega)), LN_kept h2 (g 7 (by omega) (by omega) (by omega) (by omega) (by omega) (by omega)) (g 8 (by omega) (by omega) (by omega) (by omega) (by omega) (by omega)), LN_kept h3 (g 11 (by omega) (by omega) (by omega) (by omega) (by omega) (by omega)) (g 12 (by omega) (by omega) (by omega) (by omega) (by omega) (by omega))⟩, TBw_kept h4 (fun j hj => g (13 + j) (by omega) (by omega) (by omega) (by omega) (by omega) (by omega)), ⟨by rw [hm 7 (by decide) (by decide) (by decide)]; exact h5, by rw [hm 8 (by decide) (by decide) (by decide)]; exact h6, by rw [hm 9 (by decide) (by decide) (by decide)]; exact h7⟩, FO_kept h8 hl (by rw [g 36 (by omega) (by omega) (by omega) (by omega) (by omega) (by omega)]) (g 38 (by omega) (by omega) (by omega) (by omega) (by omega) (by omega)) (fun i hi => ⟨hF _ (by omega) (by omega) (by omega) (by omega) (by omega) (by omega) (fun j _ => by omega), hF _ (by omega) (by omega) (by omega) (by omega) (by omega) (by omega) (fun j _ => by omega)⟩), by rw [g 36 (by omega) (by omega) (by omega) (by omega) (by omega) (by omega)]; exact h9⟩
/-- an answer x, the state σ, nothing behind cell 80 changed -/
def PC (D : mx_Mem) (σ : sg) (x : Int32) : Option Value → mx_Mem → Prop := fun rv D' => rv = some (.int x) ∧ CI D' σ ∧ ∀ q, 80 ≤ q → D' q = D q
set_option maxHeartbeats 4000000 in
set_option maxRecDepth 100000 in
theorem sp_To_isTextLine {G : mx_G} {d : Nat} {S : List mx_Sh} {D : mx_Mem} {x : Int32} : EV G d m_To_isTextLine 0 (mx_lc0 m_To_isTextLine [.int x]) [] S D S (RI (bI (decide (x = nI 0 ∨ x = nI 1))) D) := by
  show EV _ _ _ _ [some (.int x)] [] _ _ _ _
  refine EV.iload_n d_To_isTextLine_0 rfl ?_
  refine EV.if_lt (tgt := 13) d_To_isTextLine_1 (by decide) (fun h1 => ?_) (fun h1 => ?_)
  · have hx : ¬ (x = nI 0 ∨ x = nI 1) := fun h => by rcases h with rfl | rfl <;> exact absurd h1 (by decide)
    refine EV.iconst (v := nI 0) d_To_isTextLine_13 (by decide) ?_
    exact EV.ireturn d_To_isTextLine_14 ⟨_, rfl, rfl⟩ ⟨by first | rw [bI_t (by simpa using hx)] | rw [bI_f (by simpa using hx)], rfl⟩
  · refine EV.iload_n d_To_isTextLine_4 rfl ?_
    refine EV.iconst (v := nI 2) d_To_isTextLine_5 (by decide) ?_
    refine EV.icmp_ge (tgt := 13) d_To_isTextLine_6 (by decide) (fun h6 => ?_) (fun h6 => ?_)
    · have hx : ¬ (x = nI 0 ∨ x = nI 1) := fun h => by rcases h with rfl | rfl <;> exact absurd h6 (by decide)
      refine EV.iconst (v := nI 0) d_To_isTextLine_13 (by decide) ?_
      exact EV.ireturn d_To_isTextLine_14 ⟨_, rfl, rfl⟩ ⟨by first | rw [bI_t (by simpa using hx)] | rw [bI_f (by simpa using hx)], rfl⟩
    · have hx : x = nI 0 ∨ x = nI 1 := by
        rcases pk_ix x (n := 2) (by decide) with h | h | ⟨j, hj, rfl⟩
        · exact absurd h h1
        · exact absurd h h6
        · rcases (show j = 0 ∨ j = 1 by omega) with rfl | rfl
          · exact Or.inl rfl
          · exact Or.inr rfl
      refine EV.iconst (v := nI 1) d_To_isTextLine_9 (by decide) ?_
      refine EV.goto (tgt := 14) d_To_isTextLine_10 (by decide) ?_
      exact EV.ireturn d_To_isTextLine_14 ⟨_, rfl, rfl⟩ ⟨by first | rw [bI_t (by simpa using hx)] | rw [bI_f (by simpa using hx)], rfl⟩
set_option maxHeartbeats 4000000 in
set_option maxRecDepth 100000 in
theorem sp_To_keyOf0 {G : mx_G} {d : Nat} {S : List mx_Sh} {D : mx_Mem} {σ : sg} (hS : SH S) (hC : CI D σ) (hI : SI σ) : EV G (d + 6) m_To_keyOf 0 (mx_lc0 m_To_keyOf [.ref 0, .int (nI 0)]) [] S D S (fun rv D' => rv = some (.ref (5)) ∧ LN D' (5) (sg_k σ (σ.1 0)) ∧ ((sg_k σ (σ.1 0)).length ≤ 52 ∧ ∀ w ∈ sg_k σ (σ.1 0), w < 2 ^ 31) ∧ FrK 28 (5) D D' ∧ ∀ i, ¬ i = 4 → ¬ i = 5 → ¬ i = 6 → D' 28 i = D 28 i) := by
  obtain ⟨hz0, hz1, hz2, ⟨hL3, hL7, hL11⟩, ⟨hK5, hK9⟩, ⟨hT13, hT19⟩, hR25, hM28, hF36⟩ := id hS
  obtain ⟨hf0, hf1, hf2, hf3, hf4⟩ := id hF36
  show EV _ _ _ _ [some (.ref 0), some (.int (nI 0))] [] _ _ _ _
  refine EV.aload_n d_To_keyOf_0 rfl ?_
  refine EV.getR fl_To_47 d_To_keyOf_1 (by first | assumption | rfl) rfl ?_
  refine EV.aload_n d_To_keyOf_4 rfl ?_
  refine EV.getR fl_To_11 d_To_keyOf_5 (by first | assumption | rfl) rfl ?_
  refine EV.iload_n d_To_keyOf_8 rfl ?_
  refine EV.aaldN d_To_keyOf_9 (by first | assumption | rfl) rfl rfl rfl (by decide) rfl ?_
  refine EV.aload_n d_To_keyOf_10 rfl ?_
  refine EV.getR fl_To_17 d_To_keyOf_11 (by first | assumption | rfl) rfl ?_
  refine EV.iload_n d_To_keyOf_14 rfl ?_
  refine EV.aaldN d_To_keyOf_15 (by first | assumption | rfl) rfl rfl rfl (by decide) rfl ?_
  refine EV.V2 cv_To_149 d_To_keyOf_16 hM28.1 (sp_Km_make (n := 12) (tb := σ.2.1) (sh := σ.2.2.1.2.1) (bw := σ.2.2.1.2.2) (str := σ.2.2.1.1) (xs := σ.1 0) hM28 hT13 (by omega) hL3 (by omega) (by omega) hK5 (by omega) (by omega) (by omega) (by omega) hC.2.1 hI.2.2.1 hC.1.1 (ps_to_tx hI.1.1 hI.2.2.2.1) hC.2.2.1.1 hI.2.2.2.2.1.2 hC.2.2.1.2.1 hC.2.2.1.2.2) ⟨Nat.le_refl _, Nat.le_refl _⟩ rfl rfl (Nat.le_of_ble_eq_true rfl) (fun rv D1 hp => ?_)
  obtain ⟨rfl, q1, q2, q3, q4, q5⟩ := hp
  refine EV.aload_n d_To_keyOf_19 rfl ?_
  refine EV.getR fl_To_17 d_To_keyOf_20 (by first | assumption | rfl) rfl ?_
  refine EV.iload_n d_To_keyOf_23 rfl ?_
  refine EV.aaldN d_To_keyOf_24 (by first | assumption | rfl) rfl rfl rfl (by decide) rfl ?_
  exact EV.areturn d_To_keyOf_25 ⟨_, rfl⟩ ⟨rfl, q3, ⟨q4, q5⟩, q1, q2⟩
set_option maxHeartbeats 4000000 in
set_option maxRecDepth 100000 in
theorem sp_To_keyOf1 {G : mx_G} {d : Nat} {S : List mx_Sh} {D : mx_Mem} {σ : sg} (hS : SH S) (hC : CI D σ) (hI : SI σ) : EV G (d + 6) m_To_keyOf 0 (mx_lc0 m_To_keyOf [.ref 0, .int (nI 1)]) [] S D S (fun rv D' => rv = some (.ref (9)) ∧ LN D' (9) (sg_k σ (σ.1 1)) ∧ ((sg_k σ (σ.1 1)).length ≤ 52 ∧ ∀ w ∈ sg_k σ (σ.1 1), w < 2 ^ 31) ∧ FrK 28 (9) D D' ∧ ∀ i, ¬ i = 4 → ¬ i = 5 → ¬ i = 6 → D' 28 i = D 28 i) := by
  obtain ⟨hz0, hz1, hz2, ⟨hL3, hL7, hL11⟩, ⟨hK5, hK9⟩, ⟨hT13, hT19⟩, hR25, hM28, hF36⟩ := id hS
  obtain ⟨hf0, hf1, hf2, hf3, hf4⟩ := id hF36
  show EV _ _ _ _ [some (.ref 0), some (.int (nI 1))] [] _ _ _ _
  refine EV.aload_n d_To_keyOf_0 rfl ?_
  refine EV.getR fl_To_47 d_To_keyOf_1 (by first | assumption | rfl) rfl ?_
  refine EV.aload_n d_To_keyOf_4 rfl ?_
  refine EV.getR fl_To_11 d_To_keyOf_5 (by first | assumption | rfl) rfl ?_
  refine EV.iload_n d_To_keyOf_8 rfl ?_
  refine EV.aaldN d_To_keyOf_9 (by first | assumption | rfl) rfl rfl rfl (by decide) rfl ?_
  refine EV.aload_n d_To_keyOf_10 rfl ?_
  refine EV.getR fl_To_17 d_To_keyOf_11 (by first | assumption | rfl) rfl ?_
  refine EV.iload_n d_To_keyOf_14 rfl ?_
  refine EV.aaldN d_To_keyOf_15 (by first | assumption | rfl) rfl rfl rfl (by decide) rfl ?_
  refine EV.V2 cv_To_149 d_To_keyOf_16 hM28.1 (sp_Km_make (n := 12) (tb := σ.2.1) (sh := σ.2.2.1.2.1) (bw := σ.2.2.1.2.2) (str := σ.2.2.1.1) (xs := σ.1 1) hM28 hT13 (by omega) hL7 (by omega) (by omega) hK9 (by omega) (by omega) (by omega) (by omega) hC.2.1 hI.2.2.1 hC.1.2.1 (ps_to_tx hI.1.2 hI.2.2.2.1) hC.2.2.1.1 hI.2.2.2.2.1.2 hC.2.2.1.2.1 hC.2.2.1.2.2) ⟨Nat.le_refl _, Nat.le_refl _⟩ rfl rfl (Nat.le_of_ble_eq_true rfl) (fun rv D1 hp => ?_)
  obtain ⟨rfl, q1, q2, q3, q4, q5⟩ := hp
  refine EV.aload_n d_To_keyOf_19 rfl ?_
  refine EV.getR fl_To_17 d_To_keyOf_20 (by first | assumption | rfl) rfl ?_
  refine EV.iload_n d_To_keyOf_23 rfl ?_
  refine EV.aaldN d_To_keyOf_24 (by first | assumption | rfl) rfl rfl rfl (by decide) rfl ?_
  exact EV.areturn d_To_keyOf_25 ⟨_, rfl⟩ ⟨rfl, q3, ⟨q4, q5⟩, q1, q2⟩
set_option maxHeartbeats 4000000 in
set_option maxRecDepth 100000 in
theorem lp_To_makeFolderKeys {G : mx_G} {d : Nat} {S : List mx_Sh} {D0 : mx_Mem} {σ : sg} (hS : SH S) (hI : SI σ) : ∀ (n i : Nat) (D : mx_Mem), i ≤ σ.2.2.2.1.length → σ.2.2.2.1.length - i = n → CI D σ → (∀ j y, j < i → (sg_ks σ)[j]? = some y → LN D (36 + 6 + 4 * j) y ∧ y.length ≤ 52 ∧ ∀ w ∈ y, w < 2 ^ 31) → (∀ q, 80 ≤ q → D q = D0 q) → EV G (d + 6) m_To_makeFolderKeys 2 [some (.ref 0), some (.int (nI i))] [] S D S (fun rv D' => rv = none ∧ CI D' σ ∧ KS D' 36 (sg_ks σ) ∧ ∀ q, 80 ≤ q → D' q = D0 q) := by
  obtain ⟨hz0, hz1, hz2, ⟨hL3, hL7, hL11⟩, ⟨hK5, hK9⟩, ⟨hT13, hT19⟩, hR25, hM28, hF36⟩ := id hS
  obtain ⟨hf0, hf1, hf2, hf3, hf4⟩ := id hF36
  have hl10 := hI.2.2.2.2.2.1
  have hkl : (sg_ks σ).length = σ.2.2.2.1.length := by simp [sg_ks]
  intro n
  induction n with
  | zero =>
    intro i D h1 h2 hC hK hq
    refine EV.iload_n d_To_makeFolderKeys_2 rfl ?_
    refine EV.aload_n d_To_makeFolderKeys_3 rfl ?_
    refine EV.getR fl_To_54 d_To_makeFolderKeys_4 (by first | assumption | rfl) rfl ?_
    refine EV.getI fl_To_138 d_To_makeFolderKeys_7 (by first | assumption | rfl) rfl ?_
    refine EV.icmp_geN (tgt := 44) d_To_makeFolderKeys_10 (by decide) rfl hC.2.2.2.1.1 (by omega) (by omega) (fun h10 => ?_) (fun h10 => ?_)
    · exact EV.return_ d_To_makeFolderKeys_44 rfl ⟨rfl, hC, fun j y hy => hK j y (by have := (List.getElem?_eq_some_iff.mp hy).1; omega) hy, hq⟩
    · exfalso
      omega
  | succ n ih =>
    intro i D h1 h2 hC hK hq
    obtain ⟨e, he⟩ : ∃ e, σ.2.2.2.1[i]? = some e := ⟨σ.2.2.2.1[i]'(by omega), List.getElem?_eq_getElem (by omega)⟩
    obtain ⟨hsl, hsk⟩ := hf4 i (by omega)
    have hto := (hI.2.2.2.2.2.2.1 e (List.mem_of_getElem? he)).1
    have hks : (sg_ks σ)[i]? = some (sg_k σ e.2) := by simp [sg_ks, he]
    refine EV.iload_n d_To_makeFolderKeys_2 rfl ?_
    refine EV.aload_n d_To_makeFolderKeys_3 rfl ?_
    refine EV.getR fl_To_54 d_To_makeFolderKeys_4 (by first | assumption | rfl) rfl ?_
    refine EV.getI fl_To_138 d_To_makeFolderKeys_7 (by first | assumption | rfl) rfl ?_
    refine EV.icmp_geN (tgt := 44) d_To_makeFolderKeys_10 (by decide) rfl hC.2.2.2.1.1 (by omega) (by omega) (fun h10 => ?_) (fun h10 => ?_)
    · exfalso
      omega
    · refine EV.aload_n d_To_makeFolderKeys_13 rfl ?_
      refine EV.getR fl_To_47 d_To_makeFolderKeys_14 (by first | assumption | rfl) rfl ?_
      refine EV.aload_n d_To_makeFolderKeys_17 rfl ?_
      refine EV.getR fl_To_54 d_To_makeFolderKeys_18 (by first | assumption | rfl) rfl ?_
      refine EV.getR fl_To_153 d_To_makeFolderKeys_21 (by first | assumption | rfl) rfl ?_
      refine EV.iload_n d_To_makeFolderKeys_24 rfl ?_
      refine EV.aaldN d_To_makeFolderKeys_25 (by first | assumption | rfl) rfl rfl rfl (by omega) (ShF_t (by omega)) ?_
      refine EV.aload_n d_To_makeFolderKeys_26 rfl ?_
      refine EV.getR fl_To_54 d_To_makeFolderKeys_27 (by first | assumption | rfl) rfl ?_
      refine EV.getR fl_To_156 d_To_makeFolderKeys_30 (by first | assumption | rfl) rfl ?_
      refine EV.iload_n d_To_makeFolderKeys_33 rfl ?_
      refine EV.aaldN d_To_makeFolderKeys_34 (by first | assumption | rfl) rfl rfl rfl (by omega) (ShF_k (by omega)) ?_
      refine EV.V2 cv_To_149 d_To_makeFolderKeys_35 hM28.1 (sp_Km_make (n := 12) (tb := σ.2.1) (sh := σ.2.2.1.2.1) (bw := σ.2.2.1.2.2) (str := σ.2.2.1.1) (xs := e.2) hM28 hT13 (by omega) hsl (by omega) (by omega) hsk (by omega) (by omega) (by omega) (by omega) hC.2.1 hI.2.2.1 (hC.2.2.2.1.2.1 i e he).2 (ps_to_tx hto hI.2.2.2.1) hC.2.2.1.1 hI.2.2.2.2.1.2 hC.2.2.1.2.1 hC.2.2.1.2.2) ⟨Nat.le_refl _, Nat.le_refl _⟩ rfl rfl (Nat.le_of_ble_eq_true rfl) (fun rv D1 hp => ?_)
      obtain ⟨rfl, q1, q2, q3, q4, q5⟩ := hp
      refine EV.iincN d_To_makeFolderKeys_38 rfl (by decide) ?_
      refine EV.goto (tgt := 2) d_To_makeFolderKeys_41 (by decide) ?_
      refine ih (i + 1) D1 (by omega) (by omega) (CI_kept hC hl10 (fun q a b _ _ _ _ f => q1 q a (by have := (f i (by omega)).1; omega) (by have := (f i (by omega)).2; omega)) q2) (fun j y hj hy => ?_) (fun q h80 => (q1 q (by omega) (by omega) (by omega)).trans (hq q h80))
      by_cases z : j = i
      · subst z
        rw [hks] at hy
        cases hy
        exact ⟨q3, q4, q5⟩
      · obtain ⟨a1, a2⟩ := hK j y (by omega) hy
        exact ⟨LN_kept a1 (q1 _ (by omega) (by omega) (by omega)) (q1 _ (by omega) (by omega) (by omega)), a2⟩
set_option maxHeartbeats 4000000 in
set_option maxRecDepth 100000 in
theorem sp_To_makeFolderKeys {G : mx_G} {d : Nat} {S : List mx_Sh} {D0 : mx_Mem} {σ : sg} (hS : SH S) (hC : CI D0 σ) (hI : SI σ) : EV G (d + 6) m_To_makeFolderKeys 0 (mx_lc0 m_To_makeFolderKeys [.ref 0]) [] S D0 S (fun rv D' => rv = none ∧ CI D' σ ∧ KS D' 36 (sg_ks σ) ∧ ∀ q, 80 ≤ q → D' q = D0 q) := by
  show EV _ _ _ _ [some (.ref 0), none] [] _ _ _ _
  refine EV.iconst (v := nI 0) d_To_makeFolderKeys_0 (by decide) ?_
  refine EV.istore_n d_To_makeFolderKeys_1 (by decide) ?_
  exact lp_To_makeFolderKeys hS hI σ.2.2.2.1.length 0 D0 (by omega) rfl hC (fun j y hj => absurd hj (by omega)) (fun _ _ => rfl)
