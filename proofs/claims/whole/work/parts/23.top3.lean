theorem CI_fo {D D' : mx_Mem} {σ : sg} {fl : ps_F} {nx : Nat} (h : CI D σ) (hF : FrF 36 D D') (hO : FO D' 36 fl) (hn : D' 36 4 = nI nx) : CI D' (σ.1, σ.2.1, σ.2.2.1, fl, nx) := by
  obtain ⟨⟨h1, h2, h3⟩, h4, ⟨h5, h6, h7⟩, -, -⟩ := h
  exact ⟨⟨LN_kept h1 (hF _ (by omega)) (hF _ (by omega)), LN_kept h2 (hF _ (by omega)) (hF _ (by omega)), LN_kept h3 (hF _ (by omega)) (hF _ (by omega))⟩, TBw_kept h4 (fun j hj => hF _ (by omega)), ⟨by rw [hF 28 (by omega)]; exact h5, by rw [hF 28 (by omega)]; exact h6, by rw [hF 28 (by omega)]; exact h7⟩, hO, hn⟩
theorem tx_not {x : Int32} (h : decide (x = nI 0 ∨ x = nI 1) = false) : ¬ x = nI 0 ∧ ¬ x = nI 1 := by simpa using h
theorem ps_enc_dig {b : Nat} (hb : 0 < b) : ∀ (k : Nat) (s : List Nat), (∀ c ∈ s, c < b) → ps_enc b s / b ^ k % b = s.getD k 0 := by
  intro k
  induction k with
  | zero =>
    intro s hs
    cases s with
    | nil => simp [ps_enc]
    | cons c r =>
      have := hs c List.mem_cons_self
      simp [ps_enc, Nat.mod_eq_of_lt this]
  | succ k ih =>
    intro s hs
    cases s with
    | nil => simp [ps_enc]
    | cons c r =>
      have h1 := hs c List.mem_cons_self
      simp only [ps_enc]
      rw [Nat.pow_succ, Nat.mul_comm (b ^ k) b, ← Nat.div_div_eq_div_mul, Nat.add_mul_div_left _ _ hb, Nat.div_eq_of_lt h1, Nat.zero_add, ih r (fun x hx => hs x (List.mem_cons_of_mem _ hx))]
      simp
/-- what entry answers -/
def op_ent (σ : sg) (x y : Int32) : Int32 := if x < 0 ∨ nI σ.2.1.length ≤ x then -2 else match σ.2.1[x.toNatClampNeg]? with
  | none => -2
  | some e => if y = nI 0 ∨ y = nI 1 ∨ y = nI 2 then (if e.1.getD y.toNatClampNeg 0 = 0 then -1 else nI (e.1.getD y.toNatClampNeg 0)) else if y = nI 3 then nI e.2 else if y = nI 4 then nI (ps_wt (ps_stp σ.2.1) (x.toNatClampNeg + 1)).1 else if y = nI 5 then nI (ps_wt (ps_stp σ.2.1) (x.toNatClampNeg + 1)).2.1 else if y = nI 6 then nI (ps_wt (ps_stp σ.2.1) (x.toNatClampNeg + 1)).2.2 else -2
/-- what tailor answers and does -/
def op_tail (σ : sg) : Int32 × sg := match ru_ans (σ.1 2).length (ru_rd (0, 0, []) 0 (σ.1 2)) with
  | .inl p => (-1 - nI p, sg_up σ 2 [])
  | .inr rl => match ps_fol σ.2.1 rl with
    | .inl c => (c, sg_up σ 2 [])
    | .inr tb => (nI tb.length, ((sg_up σ 2 []).1, tb, σ.2.2))
theorem TBw_copy {D D' : mx_Mem} {t o : Nat} {tb : ps_T} (hl : tb.length ≤ 30) (h5 : D' t 5 = nI tb.length) (hB : TBf 256 (D (o + 1)) (D (o + 2)) tb) (hr : ∀ j, j < 30 → D' (t + 1) j = D (o + 1) j ∧ D' (t + 2) j = D (o + 2) j) (hw : ∀ j, j < tb.length → D' (t + 3) j = nI (ps_wt (ps_stp tb) (j + 1)).1 ∧ D' (t + 4) j = nI (ps_wt (ps_stp tb) (j + 1)).2.1 ∧ D' (t + 5) j = nI (ps_wt (ps_stp tb) (j + 1)).2.2) : TBw D' t tb :=
  ⟨h5, fun i e he => by
    have hi : i < tb.length := (List.getElem?_eq_some_iff.mp he).1
    obtain ⟨a, b⟩ := hr i (by omega)
    rw [a, b]
    exact hB i e he, hw⟩
theorem TBf_stp {b : Nat} {f g : Nat → Int32} {tb : ps_T} (hok : ps_ok tb) (h : TBf b f g tb) : ∀ j, j < tb.length → g j = nI (ps_stp tb j) ∧ ps_stp tb j < 2 ^ 31 := by
  intro j hj
  have he : tb[j]? = some tb[j] := List.getElem?_eq_getElem hj
  have hs : ps_stp tb j = tb[j].2 := by simp [ps_stp, hj]
  have := (hok.1 _ (List.mem_of_getElem? he)).2
  rw [hs]
  exact ⟨(h j _ he).2, by omega⟩
theorem ps_fol_neg {tb rl : ps_T} {c : Int32} (hok : ps_ok tb) (hrl : RLo rl) (h : ps_fol tb rl = .inl c) : c = -100 ∨ c = -101 ∨ c = -102 := by
  have key : ∀ (r : ps_T) (tb : ps_T) (a : List Nat), ps_ok tb → ps_has tb a → (∀ e ∈ r, ps_so e.1 ∧ 1 ≤ e.2 ∧ e.2 ≤ 4) → ∀ c, ps_foll tb a r = .inl c → c = -101 ∨ c = -102 := by
    intro r
    induction r with
    | nil => intro tb a _ _ _ c h; cases h
    | cons e r ih =>
      intro tb a hok ha hr c h
      have he := hr e List.mem_cons_self
      simp only [ps_foll] at h
      cases hm : ps_move tb e.1 a e.2 with
      | inl c' =>
        rw [hm] at h
        cases h
        exact ps_move_neg hok ha hm
      | inr tb' =>
        rw [hm] at h
        obtain ⟨k1, k2, -⟩ := ps_move_ok hok he.1 he.2 hm
        exact ih tb' e.1 k1 k2 (fun x hx => hr x (List.mem_cons_of_mem _ hx)) c h
  cases rl with
  | nil => have := hrl.1; simp at this
  | cons e r =>
    simp only [ps_fol] at h
    cases hi : ps_idx tb e.1 with
    | none => rw [hi] at h; cases h; exact Or.inl rfl
    | some i =>
      rw [hi] at h
      refine Or.inr (key r tb e.1 hok ?_ (fun x hx => ?_) c h)
      · obtain ⟨⟨u, hu, q⟩, -⟩ := ps_idx_some.mp hi
        exact ⟨u, List.mem_of_getElem? hu, q⟩
      · obtain ⟨j, hj⟩ := List.getElem?_of_mem hx
        exact ⟨hrl.2.2.1 x (List.mem_cons_of_mem _ hx), hrl.2.2.2 (j + 1) x (by omega) (by simpa using hj)⟩
theorem ps_fol_ok {tb rl tb' : ps_T} (hok : ps_ok tb) (hrl : RLo rl) (h : ps_fol tb rl = .inr tb') : ps_ok tb' ∧ ∀ u, ps_has tb u → ps_has tb' u := by
  have key : ∀ (r : ps_T) (tb : ps_T) (a : List Nat), ps_ok tb → (∀ e ∈ r, ps_so e.1 ∧ 1 ≤ e.2 ∧ e.2 ≤ 4) → ps_foll tb a r = .inr tb' → ps_ok tb' ∧ ∀ u, ps_has tb u → ps_has tb' u := by
    intro r
    induction r with
    | nil => intro tb a hok _ h; cases h; exact ⟨hok, fun _ h => h⟩
    | cons e r ih =>
      intro tb a hok hr h
      have he := hr e List.mem_cons_self
      simp only [ps_foll] at h
      cases hm : ps_move tb e.1 a e.2 with
      | inl c' => rw [hm] at h; cases h
      | inr tb2 =>
        rw [hm] at h
        obtain ⟨k1, k2, k3⟩ := ps_move_ok hok he.1 he.2 hm
        obtain ⟨z1, z2⟩ := ih tb2 e.1 k1 (fun x hx => hr x (List.mem_cons_of_mem _ hx)) h
        exact ⟨z1, fun u hu => z2 u (k3 u hu)⟩
  cases rl with
  | nil => cases h
  | cons e r =>
    simp only [ps_fol] at h
    cases hi : ps_idx tb e.1 with
    | none => rw [hi] at h; cases h
    | some i =>
      rw [hi] at h
      refine key r tb e.1 hok (fun x hx => ?_) h
      obtain ⟨j, hj⟩ := List.getElem?_of_mem hx
      exact ⟨hrl.2.2.1 x (List.mem_cons_of_mem _ hx), hrl.2.2.2 (j + 1) x (by omega) (by simpa using hj)⟩
set_option maxHeartbeats 4000000 in
set_option maxRecDepth 100000 in
theorem sp_To_keyLength0 {G : mx_G} {d : Nat} {S : List mx_Sh} {D : mx_Mem} {σ : sg} (hS : SH S) (hC : CI D σ) (hI : SI σ) : EV G (d + 7) m_To_keyLength 0 (mx_lc0 m_To_keyLength [.ref 0, .int (nI 0)]) [] S D S (PC D σ (nI (sg_k σ (σ.1 0)).length)) := by
  obtain ⟨hz0, hz1, hz2, ⟨hL3, hL7, hL11⟩, ⟨hK5, hK9⟩, ⟨hT13, hT19⟩, hR25, hM28, hF36⟩ := id hS
  obtain ⟨hf0, hf1, hf2, hf3, hf4⟩ := id hF36
  have hl10 := hI.2.2.2.2.2.1
  show EV _ _ _ _ [some (.ref 0), some (.int (nI 0))] [] _ _ _ _
  refine EV.iload_n d_To_keyLength_0 rfl ?_
  refine EV.T1 cs_To_115 d_To_keyLength_1 (sp_To_isTextLine) ⟨Nat.le_refl _, Nat.le_refl _⟩ rfl rfl (Nat.le_of_ble_eq_true rfl) (fun rv D1 hp => ?_)
  obtain ⟨rfl, hD⟩ := hp
  obtain rfl := hD.symm
  refine EV.if_eqB (tgt := 18) d_To_keyLength_4 (by decide) (fun h4 => absurd h4 (by decide)) (fun h4 => ?_)
  refine EV.aload_n d_To_keyLength_7 rfl ?_
  refine EV.iload_n d_To_keyLength_8 rfl ?_
  refine EV.V1 cv_To_118 d_To_keyLength_9 hz0 (sp_To_keyOf0 hS hC hI) ⟨Nat.le_refl _, Nat.le_refl _⟩ rfl rfl (Nat.le_of_ble_eq_true rfl) (fun rv D1 hp => ?_)
  obtain ⟨rfl, q1, ⟨q2, q3⟩, q4, q5⟩ := hp
  refine EV.getI fl_To_122 d_To_keyLength_12 hK5.1 rfl ?_
  refine EV.top q1.1 ?_
  refine EV.goto (tgt := 19) d_To_keyLength_15 (by decide) ?_
  exact EV.ireturn d_To_keyLength_19 ⟨_, rfl, rfl⟩ ⟨rfl, CI_kept hC hl10 (fun q a b c5 c6 c9 c10 f => q4 q a (by omega) (by omega)) q5, fun q hq => q4 q (by omega) (by omega) (by omega)⟩
set_option maxHeartbeats 4000000 in
set_option maxRecDepth 100000 in
theorem sp_To_keyLength1 {G : mx_G} {d : Nat} {S : List mx_Sh} {D : mx_Mem} {σ : sg} (hS : SH S) (hC : CI D σ) (hI : SI σ) : EV G (d + 7) m_To_keyLength 0 (mx_lc0 m_To_keyLength [.ref 0, .int (nI 1)]) [] S D S (PC D σ (nI (sg_k σ (σ.1 1)).length)) := by
  obtain ⟨hz0, hz1, hz2, ⟨hL3, hL7, hL11⟩, ⟨hK5, hK9⟩, ⟨hT13, hT19⟩, hR25, hM28, hF36⟩ := id hS
  obtain ⟨hf0, hf1, hf2, hf3, hf4⟩ := id hF36
  have hl10 := hI.2.2.2.2.2.1
  show EV _ _ _ _ [some (.ref 0), some (.int (nI 1))] [] _ _ _ _
  refine EV.iload_n d_To_keyLength_0 rfl ?_
  refine EV.T1 cs_To_115 d_To_keyLength_1 (sp_To_isTextLine) ⟨Nat.le_refl _, Nat.le_refl _⟩ rfl rfl (Nat.le_of_ble_eq_true rfl) (fun rv D1 hp => ?_)
  obtain ⟨rfl, hD⟩ := hp
  obtain rfl := hD.symm
  refine EV.if_eqB (tgt := 18) d_To_keyLength_4 (by decide) (fun h4 => absurd h4 (by decide)) (fun h4 => ?_)
  refine EV.aload_n d_To_keyLength_7 rfl ?_
  refine EV.iload_n d_To_keyLength_8 rfl ?_
  refine EV.V1 cv_To_118 d_To_keyLength_9 hz0 (sp_To_keyOf1 hS hC hI) ⟨Nat.le_refl _, Nat.le_refl _⟩ rfl rfl (Nat.le_of_ble_eq_true rfl) (fun rv D1 hp => ?_)
  obtain ⟨rfl, q1, ⟨q2, q3⟩, q4, q5⟩ := hp
  refine EV.getI fl_To_122 d_To_keyLength_12 hK9.1 rfl ?_
  refine EV.top q1.1 ?_
  refine EV.goto (tgt := 19) d_To_keyLength_15 (by decide) ?_
  exact EV.ireturn d_To_keyLength_19 ⟨_, rfl, rfl⟩ ⟨rfl, CI_kept hC hl10 (fun q a b c5 c6 c9 c10 f => q4 q a (by omega) (by omega)) q5, fun q hq => q4 q (by omega) (by omega) (by omega)⟩
set_option maxHeartbeats 4000000 in
set_option maxRecDepth 100000 in
theorem cl_klen {G : mx_G} {d : Nat} {S : List mx_Sh} {D : mx_Mem} {σ : sg} (hS : SH S) (hC : CI D σ) (hI : SI σ) {x : Int32} : EV G (d + 7) m_To_keyLength 0 (mx_lc0 m_To_keyLength [.ref 0, .int x]) [] S D S (PC D σ (op_klen σ x)) := by
  by_cases h0 : x = nI 0
  · subst h0
    exact sp_To_keyLength0 hS hC hI
  by_cases h1 : x = nI 1
  · subst h1
    exact sp_To_keyLength1 hS hC hI
  have e : op_klen σ x = -1 := by unfold op_klen; rw [if_neg h0, if_neg h1]
  rw [e]
  show EV _ _ _ _ [some (.ref 0), some (.int x)] [] _ _ _ _
  refine EV.iload_n d_To_keyLength_0 rfl ?_
  refine EV.T1 cs_To_115 d_To_keyLength_1 (sp_To_isTextLine) ⟨Nat.le_refl _, Nat.le_refl _⟩ rfl rfl (Nat.le_of_ble_eq_true rfl) (fun rv D1 hp => ?_)
  obtain ⟨rfl, hD⟩ := hp
  obtain rfl := hD.symm
  refine EV.if_eqB (tgt := 18) d_To_keyLength_4 (by decide) (fun h4 => ?_) (fun h4 => by have := of_decide_eq_true h4; exact (this.elim h0 h1).elim)
  refine EV.iconst (v := (-1)) d_To_keyLength_18 (by decide) ?_
  exact EV.ireturn d_To_keyLength_19 ⟨_, rfl, rfl⟩ ⟨rfl, hC, fun _ _ => rfl⟩
set_option maxHeartbeats 4000000 in
set_option maxRecDepth 100000 in
theorem sp_To_keyAt0 {G : mx_G} {d : Nat} {S : List mx_Sh} {D : mx_Mem} {σ : sg} (hS : SH S) (hC : CI D σ) (hI : SI σ) {y : Int32} : EV G (d + 7) m_To_keyAt 0 (mx_lc0 m_To_keyAt [.ref 0, .int (nI 0), .int y]) [] S D S (PC D σ (ps_nth (sg_k σ (σ.1 0)) y)) := by
  obtain ⟨hz0, hz1, hz2, ⟨hL3, hL7, hL11⟩, ⟨hK5, hK9⟩, ⟨hT13, hT19⟩, hR25, hM28, hF36⟩ := id hS
  obtain ⟨hf0, hf1, hf2, hf3, hf4⟩ := id hF36
  have hl10 := hI.2.2.2.2.2.1
  show EV _ _ _ _ [some (.ref 0), some (.int (nI 0)), some (.int y), none] [] _ _ _ _
  refine EV.iload_n d_To_keyAt_0 rfl ?_
  refine EV.T1 cs_To_115 d_To_keyAt_1 (sp_To_isTextLine) ⟨Nat.le_refl _, Nat.le_refl _⟩ rfl rfl (Nat.le_of_ble_eq_true rfl) (fun rv D1 hp => ?_)
  obtain ⟨rfl, hD⟩ := hp
  obtain rfl := hD.symm
  refine EV.if_neB (tgt := 9) d_To_keyAt_4 (by decide) (fun h4 => ?_) (fun h4 => absurd h4 (by decide))
  refine EV.aload_n d_To_keyAt_9 rfl ?_
  refine EV.iload_n d_To_keyAt_10 rfl ?_
  refine EV.V1 cv_To_118 d_To_keyAt_11 hz0 (sp_To_keyOf0 hS hC hI) ⟨Nat.le_refl _, Nat.le_refl _⟩ rfl rfl (Nat.le_of_ble_eq_true rfl) (fun rv D1 hp => ?_)
  obtain ⟨rfl, q1, ⟨q2, q3⟩, q4, q5⟩ := hp
  refine EV.astore_n d_To_keyAt_14 (by decide) ?_
  refine EV.iload_n d_To_keyAt_15 rfl ?_
  refine EV.if_lt (tgt := 27) d_To_keyAt_16 (by decide) (fun h16 => ?_) (fun h16 => ?_)
  · refine EV.iconst (v := (-1)) d_To_keyAt_27 (by decide) ?_
    refine EV.goto (tgt := 37) d_To_keyAt_28 (by decide) ?_
    exact EV.ireturn d_To_keyAt_37 ⟨_, rfl, rfl⟩ ⟨by (unfold ps_nth; rw [if_pos (by first | exact Or.inl h16 | exact Or.inr (Int32.not_lt.mp h24))]), CI_kept hC hl10 (fun q a b c5 c6 c9 c10 f => q4 q a (by omega) (by omega)) q5, fun q hq => q4 q (by omega) (by omega) (by omega)⟩
  · refine EV.iload_n d_To_keyAt_19 rfl ?_
    refine EV.aload_n d_To_keyAt_20 rfl ?_
    refine EV.getI fl_To_122 d_To_keyAt_21 hK5.1 rfl ?_
    refine EV.top q1.1 ?_
    refine EV.icmp_lt (tgt := 31) d_To_keyAt_24 (by decide) (fun h24 => ?_) (fun h24 => ?_)
    · obtain ⟨i, hi, rfl⟩ : ∃ i, i < (sg_k σ (σ.1 0)).length ∧ y = nI i := by
        rcases pk_ix y (n := (sg_k σ (σ.1 0)).length) (by omega) with h | h | ⟨i, hi, rfl⟩
        · exact absurd h h16
        · exact absurd h24 (Int32.not_lt.mpr h)
        · exact ⟨i, hi, rfl⟩
      obtain ⟨hka, hkb⟩ := id hK5
      have hw := q1.2 i _ (List.getElem?_eq_getElem hi)
      refine EV.aload_n d_To_keyAt_31 rfl ?_
      refine EV.getR fl_To_125 d_To_keyAt_32 hK5.1 rfl ?_
      refine EV.iload_n d_To_keyAt_35 rfl ?_
      refine EV.ialdN d_To_keyAt_36 (by first | assumption | rfl) rfl rfl (by omega) (by first | decide | omega) ?_
      refine EV.top hw ?_
      exact EV.ireturn d_To_keyAt_37 ⟨_, rfl, rfl⟩ ⟨by (unfold ps_nth; rw [if_neg (fun h => h.elim h16 (fun h => Int32.not_lt.mpr h h24)), nI_clamp (by omega)]; simp [hi]), CI_kept hC hl10 (fun q a b c5 c6 c9 c10 f => q4 q a (by omega) (by omega)) q5, fun q hq => q4 q (by omega) (by omega) (by omega)⟩
    · refine EV.iconst (v := (-1)) d_To_keyAt_27 (by decide) ?_
      refine EV.goto (tgt := 37) d_To_keyAt_28 (by decide) ?_
      exact EV.ireturn d_To_keyAt_37 ⟨_, rfl, rfl⟩ ⟨by (unfold ps_nth; rw [if_pos (by first | exact Or.inl h16 | exact Or.inr (Int32.not_lt.mp h24))]), CI_kept hC hl10 (fun q a b c5 c6 c9 c10 f => q4 q a (by omega) (by omega)) q5, fun q hq => q4 q (by omega) (by omega) (by omega)⟩
set_option maxHeartbeats 4000000 in
set_option maxRecDepth 100000 in
theorem sp_To_keyAt1 {G : mx_G} {d : Nat} {S : List mx_Sh} {D : mx_Mem} {σ : sg} (hS : SH S) (hC : CI D σ) (hI : SI σ) {y : Int32} : EV G (d + 7) m_To_keyAt 0 (mx_lc0 m_To_keyAt [.ref 0, .int (nI 1), .int y]) [] S D S (PC D σ (ps_nth (sg_k σ (σ.1 1)) y)) := by
  obtain ⟨hz0, hz1, hz2, ⟨hL3, hL7, hL11⟩, ⟨hK5, hK9⟩, ⟨hT13, hT19⟩, hR25, hM28, hF36⟩ := id hS
  obtain ⟨hf0, hf1, hf2, hf3, hf4⟩ := id hF36
  have hl10 := hI.2.2.2.2.2.1
  show EV _ _ _ _ [some (.ref 0), some (.int (nI 1)), some (.int y), none] [] _ _ _ _
  refine EV.iload_n d_To_keyAt_0 rfl ?_
  refine EV.T1 cs_To_115 d_To_keyAt_1 (sp_To_isTextLine) ⟨Nat.le_refl _, Nat.le_refl _⟩ rfl rfl (Nat.le_of_ble_eq_true rfl) (fun rv D1 hp => ?_)
  obtain ⟨rfl, hD⟩ := hp
  obtain rfl := hD.symm
  refine EV.if_neB (tgt := 9) d_To_keyAt_4 (by decide) (fun h4 => ?_) (fun h4 => absurd h4 (by decide))
  refine EV.aload_n d_To_keyAt_9 rfl ?_
  refine EV.iload_n d_To_keyAt_10 rfl ?_
  refine EV.V1 cv_To_118 d_To_keyAt_11 hz0 (sp_To_keyOf1 hS hC hI) ⟨Nat.le_refl _, Nat.le_refl _⟩ rfl rfl (Nat.le_of_ble_eq_true rfl) (fun rv D1 hp => ?_)
  obtain ⟨rfl, q1, ⟨q2, q3⟩, q4, q5⟩ := hp
  refine EV.astore_n d_To_keyAt_14 (by decide) ?_
  refine EV.iload_n d_To_keyAt_15 rfl ?_
  refine EV.if_lt (tgt := 27) d_To_keyAt_16 (by decide) (fun h16 => ?_) (fun h16 => ?_)
  · refine EV.iconst (v := (-1)) d_To_keyAt_27 (by decide) ?_
    refine EV.goto (tgt := 37) d_To_keyAt_28 (by decide) ?_
    exact EV.ireturn d_To_keyAt_37 ⟨_, rfl, rfl⟩ ⟨by (unfold ps_nth; rw [if_pos (by first | exact Or.inl h16 | exact Or.inr (Int32.not_lt.mp h24))]), CI_kept hC hl10 (fun q a b c5 c6 c9 c10 f => q4 q a (by omega) (by omega)) q5, fun q hq => q4 q (by omega) (by omega) (by omega)⟩
  · refine EV.iload_n d_To_keyAt_19 rfl ?_
    refine EV.aload_n d_To_keyAt_20 rfl ?_
    refine EV.getI fl_To_122 d_To_keyAt_21 hK9.1 rfl ?_
    refine EV.top q1.1 ?_
    refine EV.icmp_lt (tgt := 31) d_To_keyAt_24 (by decide) (fun h24 => ?_) (fun h24 => ?_)
    · obtain ⟨i, hi, rfl⟩ : ∃ i, i < (sg_k σ (σ.1 1)).length ∧ y = nI i := by
        rcases pk_ix y (n := (sg_k σ (σ.1 1)).length) (by omega) with h | h | ⟨i, hi, rfl⟩
        · exact absurd h h16
        · exact absurd h24 (Int32.not_lt.mpr h)
        · exact ⟨i, hi, rfl⟩
      obtain ⟨hka, hkb⟩ := id hK9
      have hw := q1.2 i _ (List.getElem?_eq_getElem hi)
      refine EV.aload_n d_To_keyAt_31 rfl ?_
      refine EV.getR fl_To_125 d_To_keyAt_32 hK9.1 rfl ?_
      refine EV.iload_n d_To_keyAt_35 rfl ?_
      refine EV.ialdN d_To_keyAt_36 (by first | assumption | rfl) rfl rfl (by omega) (by first | decide | omega) ?_
      refine EV.top hw ?_
      exact EV.ireturn d_To_keyAt_37 ⟨_, rfl, rfl⟩ ⟨by (unfold ps_nth; rw [if_neg (fun h => h.elim h16 (fun h => Int32.not_lt.mpr h h24)), nI_clamp (by omega)]; simp [hi]), CI_kept hC hl10 (fun q a b c5 c6 c9 c10 f => q4 q a (by omega) (by omega)) q5, fun q hq => q4 q (by omega) (by omega) (by omega)⟩
    · refine EV.iconst (v := (-1)) d_To_keyAt_27 (by decide) ?_
      refine EV.goto (tgt := 37) d_To_keyAt_28 (by decide) ?_
      exact EV.ireturn d_To_keyAt_37 ⟨_, rfl, rfl⟩ ⟨by (unfold ps_nth; rw [if_pos (by first | exact Or.inl h16 | exact Or.inr (Int32.not_lt.mp h24))]), CI_kept hC hl10 (fun q a b c5 c6 c9 c10 f => q4 q a (by omega) (by omega)) q5, fun q hq => q4 q (by omega) (by omega) (by omega)⟩
set_option maxHeartbeats 4000000 in
set_option maxRecDepth 100000 in
theorem cl_kat {G : mx_G} {d : Nat} {S : List mx_Sh} {D : mx_Mem} {σ : sg} (hS : SH S) (hC : CI D σ) (hI : SI σ) {x y : Int32} : EV G (d + 7) m_To_keyAt 0 (mx_lc0 m_To_keyAt [.ref 0, .int x, .int y]) [] S D S (PC D σ (op_kat σ x y)) := by
  by_cases h0 : x = nI 0
  · subst h0
    exact sp_To_keyAt0 hS hC hI
  by_cases h1 : x = nI 1
  · subst h1
    exact sp_To_keyAt1 hS hC hI
  have e : op_kat σ x y = -1 := by unfold op_kat; rw [if_neg h0, if_neg h1]
  rw [e]
  show EV _ _ _ _ [some (.ref 0), some (.int x), some (.int y), none] [] _ _ _ _
  refine EV.iload_n d_To_keyAt_0 rfl ?_
  refine EV.T1 cs_To_115 d_To_keyAt_1 (sp_To_isTextLine) ⟨Nat.le_refl _, Nat.le_refl _⟩ rfl rfl (Nat.le_of_ble_eq_true rfl) (fun rv D1 hp => ?_)
  obtain ⟨rfl, hD⟩ := hp
  obtain rfl := hD.symm
  refine EV.if_neB (tgt := 9) d_To_keyAt_4 (by decide) (fun h4 => by have := of_decide_eq_true h4; exact (this.elim h0 h1).elim) (fun h4 => ?_)
  refine EV.iconst (v := (-1)) d_To_keyAt_7 (by decide) ?_
  exact EV.ireturn d_To_keyAt_8 ⟨_, rfl, rfl⟩ ⟨rfl, hC, fun _ _ => rfl⟩
set_option maxHeartbeats 4000000 in
set_option maxRecDepth 100000 in
theorem cl_cmp {G : mx_G} {d : Nat} {S : List mx_Sh} {D : mx_Mem} {σ : sg} (hS : SH S) (hC : CI D σ) (hI : SI σ) : EV G (d + 7) m_To_compare 0 (mx_lc0 m_To_compare [.ref 0]) [] S D S (PC D σ (op_cmp σ)) := by
  obtain ⟨hz0, hz1, hz2, ⟨hL3, hL7, hL11⟩, ⟨hK5, hK9⟩, ⟨hT13, hT19⟩, hR25, hM28, hF36⟩ := id hS
  obtain ⟨hf0, hf1, hf2, hf3, hf4⟩ := id hF36
  have hl10 := hI.2.2.2.2.2.1
  show EV _ _ _ _ [some (.ref 0)] [] _ _ _ _
  refine EV.aload_n d_To_compare_0 rfl ?_
  refine EV.iconst (v := nI 0) d_To_compare_1 (by decide) ?_
  refine EV.V1 cv_To_118 d_To_compare_2 hz0 (sp_To_keyOf0 hS hC hI) ⟨Nat.le_refl _, Nat.le_refl _⟩ rfl rfl (Nat.le_of_ble_eq_true rfl) (fun rv D1 hp => ?_)
  obtain ⟨rfl, a1, ⟨a2, a3⟩, a4, a5⟩ := hp
  have hC1 : CI D1 σ := CI_kept hC hl10 (fun q a b c5 c6 c9 c10 f => a4 q a (by omega) (by omega)) a5
  refine EV.aload_n d_To_compare_5 rfl ?_
  refine EV.iconst (v := nI 1) d_To_compare_6 (by decide) ?_
  refine EV.V1 cv_To_118 d_To_compare_7 hz0 (sp_To_keyOf1 hS hC1 hI) ⟨Nat.le_refl _, Nat.le_refl _⟩ rfl rfl (Nat.le_of_ble_eq_true rfl) (fun rv D2 hp => ?_)
  obtain ⟨rfl, q1, ⟨q2, q3⟩, q4, q5⟩ := hp
  refine EV.V1 cv_To_128 d_To_compare_10 hK5.1 (EV.deep (d2 := d + 1) (by omega) (sp_Ke_against hK5 hK9 (LN_kept a1 (q4 5 (by omega) (by omega) (by omega)) (q4 6 (by omega) (by omega) (by omega))) q1 a2 q2 a3 q3)) ⟨Nat.le_refl _, Nat.le_refl _⟩ rfl rfl (Nat.le_of_ble_eq_true rfl) (fun rv D1 hp => ?_)
  obtain ⟨rfl, hD⟩ := hp
  obtain rfl := hD.symm
  exact EV.ireturn d_To_compare_13 ⟨_, rfl, rfl⟩ ⟨rfl, CI_kept hC1 hl10 (fun q a b c5 c6 c9 c10 f => q4 q a (by omega) (by omega)) q5, fun q hq => (q4 q (by omega) (by omega) (by omega)).trans (a4 q (by omega) (by omega) (by omega))⟩
set_option maxHeartbeats 4000000 in
set_option maxRecDepth 100000 in
theorem sp_To_file0 {G : mx_G} {d : Nat} {S : List mx_Sh} {D : mx_Mem} {σ : sg} (hS : SH S) (hC : CI D σ) (hI : SI σ) : EV G (d + 3) m_To_file 0 (mx_lc0 m_To_file [.ref 0, .int (nI 0)]) [] S D S (PC D (op_put σ (σ.1 0)).2 (op_put σ (σ.1 0)).1) := by
  obtain ⟨hz0, hz1, hz2, ⟨hL3, hL7, hL11⟩, ⟨hK5, hK9⟩, ⟨hT13, hT19⟩, hR25, hM28, hF36⟩ := id hS
  obtain ⟨hf0, hf1, hf2, hf3, hf4⟩ := id hF36
  have hl10 := hI.2.2.2.2.2.1
  show EV _ _ _ _ [some (.ref 0), some (.int (nI 0))] [] _ _ _ _
  refine EV.iload_n d_To_file_0 rfl ?_
  refine EV.T1 cs_To_115 d_To_file_1 (sp_To_isTextLine) ⟨Nat.le_refl _, Nat.le_refl _⟩ rfl rfl (Nat.le_of_ble_eq_true rfl) (fun rv D1 hp => ?_)
  obtain ⟨rfl, hD⟩ := hp
  obtain rfl := hD.symm
  refine EV.if_eqB (tgt := 23) d_To_file_4 (by decide) (fun h4 => absurd h4 (by decide)) (fun h4 => ?_)
  refine EV.aload_n d_To_file_7 rfl ?_
  refine EV.getR fl_To_54 d_To_file_8 (by first | assumption | rfl) rfl ?_
  refine EV.aload_n d_To_file_11 rfl ?_
  refine EV.getR fl_To_11 d_To_file_12 (by first | assumption | rfl) rfl ?_
  refine EV.iload_n d_To_file_15 rfl ?_
  refine EV.aaldN d_To_file_16 (by first | assumption | rfl) rfl rfl rfl (by decide) rfl ?_
  refine EV.V1 cv_To_132 d_To_file_17 hf0 (EV.deep (d2 := d + 2) (by omega) (sp_Fo_add hF36 hC.2.2.2.1 hl10 hC.2.2.2.2 hL3 (by omega) hC.1.1 (ps_to_12 hI.1.1))) ⟨Nat.le_refl _, Nat.le_refl _⟩ rfl rfl (Nat.le_of_ble_eq_true rfl) (fun rv D1 hp => ?_)
  obtain ⟨q1, rfl, q2, q3⟩ := hp
  have hcn := CI_fo hC q1 q2 q3
  refine EV.goto (tgt := 24) d_To_file_20 (by decide) ?_
  exact EV.ireturn d_To_file_24 ⟨_, rfl, rfl⟩ (by
    unfold op_put
    by_cases hl : σ.2.2.2.1.length < 10
    · rw [if_pos hl] at hcn ⊢
      rw [if_pos hl] at hcn ⊢
      exact ⟨rfl, hcn, fun q hq => q1 q (by omega)⟩
    · rw [if_neg hl] at hcn ⊢
      rw [if_neg hl] at hcn ⊢
      exact ⟨rfl, hcn, fun q hq => q1 q (by omega)⟩)
set_option maxHeartbeats 4000000 in
set_option maxRecDepth 100000 in
theorem sp_To_file1 {G : mx_G} {d : Nat} {S : List mx_Sh} {D : mx_Mem} {σ : sg} (hS : SH S) (hC : CI D σ) (hI : SI σ) : EV G (d + 3) m_To_file 0 (mx_lc0 m_To_file [.ref 0, .int (nI 1)]) [] S D S (PC D (op_put σ (σ.1 1)).2 (op_put σ (σ.1 1)).1) := by
  obtain ⟨hz0, hz1, hz2, ⟨hL3, hL7, hL11⟩, ⟨hK5, hK9⟩, ⟨hT13, hT19⟩, hR25, hM28, hF36⟩ := id hS
  obtain ⟨hf0, hf1, hf2, hf3, hf4⟩ := id hF36
  have hl10 := hI.2.2.2.2.2.1
  show EV _ _ _ _ [some (.ref 0), some (.int (nI 1))] [] _ _ _ _
  refine EV.iload_n d_To_file_0 rfl ?_
  refine EV.T1 cs_To_115 d_To_file_1 (sp_To_isTextLine) ⟨Nat.le_refl _, Nat.le_refl _⟩ rfl rfl (Nat.le_of_ble_eq_true rfl) (fun rv D1 hp => ?_)
  obtain ⟨rfl, hD⟩ := hp
  obtain rfl := hD.symm
  refine EV.if_eqB (tgt := 23) d_To_file_4 (by decide) (fun h4 => absurd h4 (by decide)) (fun h4 => ?_)
  refine EV.aload_n d_To_file_7 rfl ?_
  refine EV.getR fl_To_54 d_To_file_8 (by first | assumption | rfl) rfl ?_
  refine EV.aload_n d_To_file_11 rfl ?_
  refine EV.getR fl_To_11 d_To_file_12 (by first | assumption | rfl) rfl ?_
  refine EV.iload_n d_To_file_15 rfl ?_
  refine EV.aaldN d_To_file_16 (by first | assumption | rfl) rfl rfl rfl (by decide) rfl ?_
  refine EV.V1 cv_To_132 d_To_file_17 hf0 (EV.deep (d2 := d + 2) (by omega) (sp_Fo_add hF36 hC.2.2.2.1 hl10 hC.2.2.2.2 hL7 (by omega) hC.1.2.1 (ps_to_12 hI.1.2))) ⟨Nat.le_refl _, Nat.le_refl _⟩ rfl rfl (Nat.le_of_ble_eq_true rfl) (fun rv D1 hp => ?_)
  obtain ⟨q1, rfl, q2, q3⟩ := hp
  have hcn := CI_fo hC q1 q2 q3
  refine EV.goto (tgt := 24) d_To_file_20 (by decide) ?_
  exact EV.ireturn d_To_file_24 ⟨_, rfl, rfl⟩ (by
    unfold op_put
    by_cases hl : σ.2.2.2.1.length < 10
    · rw [if_pos hl] at hcn ⊢
      rw [if_pos hl] at hcn ⊢
      exact ⟨rfl, hcn, fun q hq => q1 q (by omega)⟩
    · rw [if_neg hl] at hcn ⊢
      rw [if_neg hl] at hcn ⊢
      exact ⟨rfl, hcn, fun q hq => q1 q (by omega)⟩)
set_option maxHeartbeats 4000000 in
set_option maxRecDepth 100000 in
theorem cl_file {G : mx_G} {d : Nat} {S : List mx_Sh} {D : mx_Mem} {σ : sg} (hS : SH S) (hC : CI D σ) (hI : SI σ) {x : Int32} : EV G (d + 3) m_To_file 0 (mx_lc0 m_To_file [.ref 0, .int x]) [] S D S (PC D (op_file σ x).2 (op_file σ x).1) := by
  by_cases h0 : x = nI 0
  · subst h0
    exact sp_To_file0 hS hC hI
  by_cases h1 : x = nI 1
  · subst h1
    exact sp_To_file1 hS hC hI
  have e : op_file σ x = (-1, σ) := by unfold op_file; rw [if_neg h0, if_neg h1]
  rw [e]
  show EV _ _ _ _ [some (.ref 0), some (.int x)] [] _ _ _ _
  refine EV.iload_n d_To_file_0 rfl ?_
  refine EV.T1 cs_To_115 d_To_file_1 (sp_To_isTextLine) ⟨Nat.le_refl _, Nat.le_refl _⟩ rfl rfl (Nat.le_of_ble_eq_true rfl) (fun rv D1 hp => ?_)
  obtain ⟨rfl, hD⟩ := hp
  obtain rfl := hD.symm
  refine EV.if_eqB (tgt := 23) d_To_file_4 (by decide) (fun h4 => ?_) (fun h4 => by have := of_decide_eq_true h4; exact (this.elim h0 h1).elim)
  refine EV.iconst (v := (-1)) d_To_file_23 (by decide) ?_
  exact EV.ireturn d_To_file_24 ⟨_, rfl, rfl⟩ ⟨rfl, hC, fun _ _ => rfl⟩
set_option maxHeartbeats 4000000 in
set_option maxRecDepth 100000 in
theorem cl_unf {G : mx_G} {d : Nat} {S : List mx_Sh} {D : mx_Mem} {σ : sg} (hS : SH S) (hC : CI D σ) (hI : SI σ) {x : Int32} : EV G (d + 4) m_To_unfile 0 (mx_lc0 m_To_unfile [.ref 0, .int x]) [] S D S (PC D (op_unf σ x).2 (op_unf σ x).1) := by
  obtain ⟨hz0, hz1, hz2, ⟨hL3, hL7, hL11⟩, ⟨hK5, hK9⟩, ⟨hT13, hT19⟩, hR25, hM28, hF36⟩ := id hS
  obtain ⟨hf0, hf1, hf2, hf3, hf4⟩ := id hF36
  have hl10 := hI.2.2.2.2.2.1
  show EV _ _ _ _ [some (.ref 0), some (.int x)] [] _ _ _ _
  refine EV.aload_n d_To_unfile_0 rfl ?_
  refine EV.getR fl_To_54 d_To_unfile_1 (by first | assumption | rfl) rfl ?_
  refine EV.iload_n d_To_unfile_4 rfl ?_
  refine EV.V1 cv_To_135 d_To_unfile_5 hf0 (EV.deep (d2 := d + 3) (by omega) (sp_Fo_remove hF36 hC.2.2.2.1 hl10 (fun e he => ps_to_12 (hI.2.2.2.2.2.2.1 e he).1))) ⟨Nat.le_refl _, Nat.le_refl _⟩ rfl rfl (Nat.le_of_ble_eq_true rfl) (fun rv D1 hp => ?_)
  obtain ⟨q1, q2, q3⟩ := hp
  have hn4 : D1 36 4 = nI σ.2.2.2.2 := q2.trans hC.2.2.2.2
  rcases q3 with ⟨i, e, he, hx, hb, rfl, hO⟩ | ⟨hb, rfl, hO⟩
  · have e1 : op_unf σ x = (nI 1, (σ.1, σ.2.1, σ.2.2.1, σ.2.2.2.1.eraseIdx i, σ.2.2.2.2)) := by
      unfold op_unf
      have : σ.2.2.2.1.findIdx? (fun e => decide (nI e.1 = x)) = some i := by
        rw [List.findIdx?_eq_some_iff_getElem]
        obtain ⟨hl, rfl⟩ := List.getElem?_eq_some_iff.mp he
        exact ⟨hl, by simpa using hx, fun j hj => by simpa using hb j _ hj (List.getElem?_eq_getElem _)⟩
      rw [this]
    rw [e1]
    exact EV.ireturn d_To_unfile_8 ⟨_, rfl, rfl⟩ ⟨rfl, CI_fo hC q1 hO hn4, fun q hq => q1 q (by omega)⟩
  · have e1 : op_unf σ x = (nI 0, σ) := by
      unfold op_unf
      have : σ.2.2.2.1.findIdx? (fun e => decide (nI e.1 = x)) = none := by
        rw [List.findIdx?_eq_none_iff]
        intro e he
        obtain ⟨j, hj⟩ := List.getElem?_of_mem he
        simpa using hb j e hj
      rw [this]
    rw [e1]
    exact EV.ireturn d_To_unfile_8 ⟨_, rfl, rfl⟩ ⟨rfl, CI_fo hC q1 hO hn4, fun q hq => q1 q (by omega)⟩
set_option maxHeartbeats 4000000 in
set_option maxRecDepth 100000 in
theorem cl_ord {G : mx_G} {d : Nat} {S : List mx_Sh} {D : mx_Mem} {σ : sg} (hS : SH S) (hC : CI D σ) (hI : SI σ) {x : Int32} : EV G (d + 7) m_To_inOrder 0 (mx_lc0 m_To_inOrder [.ref 0, .int x]) [] S D S (PC D σ (op_ord σ x)) := by
  obtain ⟨hz0, hz1, hz2, ⟨hL3, hL7, hL11⟩, ⟨hK5, hK9⟩, ⟨hT13, hT19⟩, hR25, hM28, hF36⟩ := id hS
  obtain ⟨hf0, hf1, hf2, hf3, hf4⟩ := id hF36
  have hl10 := hI.2.2.2.2.2.1
  show EV _ _ _ _ [some (.ref 0), some (.int x)] [] _ _ _ _
  refine EV.aload_n d_To_inOrder_0 rfl ?_
  refine EV.V0 cv_To_139 d_To_inOrder_1 hz0 (sp_To_makeFolderKeys hS hC hI) ⟨Nat.le_refl _, Nat.le_refl _⟩ rfl rfl (Nat.le_of_ble_eq_true rfl) (fun rv D1 hp => ?_)
  obtain ⟨rfl, hC1, hK1, q1⟩ := hp
  refine EV.aload_n d_To_inOrder_4 rfl ?_
  refine EV.getR fl_To_54 d_To_inOrder_5 (by first | assumption | rfl) rfl ?_
  refine EV.iload_n d_To_inOrder_8 rfl ?_
  refine EV.V1 cv_To_142 d_To_inOrder_9 hf0 (EV.deep (d2 := d + 4) (by omega) (sp_Fo_numberAt (fl := σ.2.2.2.1) (ks := sg_ks σ) hF36 hC1.2.2.2.1 (by simp [sg_ks]) hl10 hK1)) ⟨Nat.le_refl _, Nat.le_refl _⟩ rfl rfl (Nat.le_of_ble_eq_true rfl) (fun rv D2 hp => ?_)
  obtain ⟨hD, r, rfl, hN⟩ := hp
  obtain rfl := hD.symm
  obtain rfl := NumP_op hN
  exact EV.ireturn d_To_inOrder_12 ⟨_, rfl, rfl⟩ ⟨rfl, hC1, q1⟩
set_option maxHeartbeats 4000000 in
set_option maxRecDepth 100000 in
theorem sp_To_below0 {G : mx_G} {d : Nat} {S : List mx_Sh} {D : mx_Mem} {σ : sg} (hS : SH S) (hC : CI D σ) (hI : SI σ) : EV G (d + 7) m_To_below 0 (mx_lc0 m_To_below [.ref 0, .int (nI 0)]) [] S D S (PC D σ (nI (ps_cl (sg_ks σ) (sg_k σ (σ.1 0))))) := by
  obtain ⟨hz0, hz1, hz2, ⟨hL3, hL7, hL11⟩, ⟨hK5, hK9⟩, ⟨hT13, hT19⟩, hR25, hM28, hF36⟩ := id hS
  obtain ⟨hf0, hf1, hf2, hf3, hf4⟩ := id hF36
  have hl10 := hI.2.2.2.2.2.1
  show EV _ _ _ _ [some (.ref 0), some (.int (nI 0))] [] _ _ _ _
  refine EV.iload_n d_To_below_0 rfl ?_
  refine EV.T1 cs_To_115 d_To_below_1 (sp_To_isTextLine) ⟨Nat.le_refl _, Nat.le_refl _⟩ rfl rfl (Nat.le_of_ble_eq_true rfl) (fun rv D1 hp => ?_)
  obtain ⟨rfl, hD⟩ := hp
  obtain rfl := hD.symm
  refine EV.if_neB (tgt := 9) d_To_below_4 (by decide) (fun h4 => ?_) (fun h4 => absurd h4 (by decide))
  refine EV.aload_n d_To_below_9 rfl ?_
  refine EV.V0 cv_To_139 d_To_below_10 hz0 (sp_To_makeFolderKeys hS hC hI) ⟨Nat.le_refl _, Nat.le_refl _⟩ rfl rfl (Nat.le_of_ble_eq_true rfl) (fun rv D1 hp => ?_)
  obtain ⟨rfl, hC1, hK1, a1⟩ := hp
  refine EV.aload_n d_To_below_13 rfl ?_
  refine EV.getR fl_To_54 d_To_below_14 (by first | assumption | rfl) rfl ?_
  refine EV.aload_n d_To_below_17 rfl ?_
  refine EV.iload_n d_To_below_18 rfl ?_
  refine EV.V1 cv_To_118 d_To_below_19 hz0 (sp_To_keyOf0 hS hC1 hI) ⟨Nat.le_refl _, Nat.le_refl _⟩ rfl rfl (Nat.le_of_ble_eq_true rfl) (fun rv D2 hp => ?_)
  obtain ⟨rfl, q1, ⟨q2, q3⟩, q4, q5⟩ := hp
  refine EV.V1 cv_To_146 d_To_below_22 hf0 (EV.deep (d2 := d + 2) (by omega) (sp_Fo_countLess (ks := sg_ks σ) hF36 hK5 (by rw [q4 36 (by omega) (by omega) (by omega)]; rw [show (sg_ks σ).length = σ.2.2.2.1.length by simp [sg_ks]]; exact hC1.2.2.2.1.1) (by simp [sg_ks]; exact hl10) (fun i y hy => ⟨LN_kept (hK1 i y hy).1 (q4 _ (by omega) (by omega) (by omega)) (q4 _ (by omega) (by omega) (by omega)), (hK1 i y hy).2⟩) q1 q2 q3)) ⟨Nat.le_refl _, Nat.le_refl _⟩ rfl rfl (Nat.le_of_ble_eq_true rfl) (fun rv D1 hp => ?_)
  obtain ⟨rfl, hD⟩ := hp
  obtain rfl := hD.symm
  exact EV.ireturn d_To_below_25 ⟨_, rfl, rfl⟩ ⟨rfl, CI_kept hC1 hl10 (fun q a b c5 c6 c9 c10 f => q4 q a (by omega) (by omega)) q5, fun q hq => (q4 q (by omega) (by omega) (by omega)).trans (a1 q hq)⟩
set_option maxHeartbeats 4000000 in
set_option maxRecDepth 100000 in
theorem sp_To_below1 {G : mx_G} {d : Nat} {S : List mx_Sh} {D : mx_Mem} {σ : sg} (hS : SH S) (hC : CI D σ) (hI : SI σ) : EV G (d + 7) m_To_below 0 (mx_lc0 m_To_below [.ref 0, .int (nI 1)]) [] S D S (PC D σ (nI (ps_cl (sg_ks σ) (sg_k σ (σ.1 1))))) := by
  obtain ⟨hz0, hz1, hz2, ⟨hL3, hL7, hL11⟩, ⟨hK5, hK9⟩, ⟨hT13, hT19⟩, hR25, hM28, hF36⟩ := id hS
  obtain ⟨hf0, hf1, hf2, hf3, hf4⟩ := id hF36
  have hl10 := hI.2.2.2.2.2.1
  show EV _ _ _ _ [some (.ref 0), some (.int (nI 1))] [] _ _ _ _
  refine EV.iload_n d_To_below_0 rfl ?_
  refine EV.T1 cs_To_115 d_To_below_1 (sp_To_isTextLine) ⟨Nat.le_refl _, Nat.le_refl _⟩ rfl rfl (Nat.le_of_ble_eq_true rfl) (fun rv D1 hp => ?_)
  obtain ⟨rfl, hD⟩ := hp
  obtain rfl := hD.symm
  refine EV.if_neB (tgt := 9) d_To_below_4 (by decide) (fun h4 => ?_) (fun h4 => absurd h4 (by decide))
  refine EV.aload_n d_To_below_9 rfl ?_
  refine EV.V0 cv_To_139 d_To_below_10 hz0 (sp_To_makeFolderKeys hS hC hI) ⟨Nat.le_refl _, Nat.le_refl _⟩ rfl rfl (Nat.le_of_ble_eq_true rfl) (fun rv D1 hp => ?_)
  obtain ⟨rfl, hC1, hK1, a1⟩ := hp
  refine EV.aload_n d_To_below_13 rfl ?_
  refine EV.getR fl_To_54 d_To_below_14 (by first | assumption | rfl) rfl ?_
  refine EV.aload_n d_To_below_17 rfl ?_
  refine EV.iload_n d_To_below_18 rfl ?_
  refine EV.V1 cv_To_118 d_To_below_19 hz0 (sp_To_keyOf1 hS hC1 hI) ⟨Nat.le_refl _, Nat.le_refl _⟩ rfl rfl (Nat.le_of_ble_eq_true rfl) (fun rv D2 hp => ?_)
  obtain ⟨rfl, q1, ⟨q2, q3⟩, q4, q5⟩ := hp
  refine EV.V1 cv_To_146 d_To_below_22 hf0 (EV.deep (d2 := d + 2) (by omega) (sp_Fo_countLess (ks := sg_ks σ) hF36 hK9 (by rw [q4 36 (by omega) (by omega) (by omega)]; rw [show (sg_ks σ).length = σ.2.2.2.1.length by simp [sg_ks]]; exact hC1.2.2.2.1.1) (by simp [sg_ks]; exact hl10) (fun i y hy => ⟨LN_kept (hK1 i y hy).1 (q4 _ (by omega) (by omega) (by omega)) (q4 _ (by omega) (by omega) (by omega)), (hK1 i y hy).2⟩) q1 q2 q3)) ⟨Nat.le_refl _, Nat.le_refl _⟩ rfl rfl (Nat.le_of_ble_eq_true rfl) (fun rv D1 hp => ?_)
  obtain ⟨rfl, hD⟩ := hp
  obtain rfl := hD.symm
  exact EV.ireturn d_To_below_25 ⟨_, rfl, rfl⟩ ⟨rfl, CI_kept hC1 hl10 (fun q a b c5 c6 c9 c10 f => q4 q a (by omega) (by omega)) q5, fun q hq => (q4 q (by omega) (by omega) (by omega)).trans (a1 q hq)⟩
set_option maxHeartbeats 4000000 in
set_option maxRecDepth 100000 in
theorem cl_bel {G : mx_G} {d : Nat} {S : List mx_Sh} {D : mx_Mem} {σ : sg} (hS : SH S) (hC : CI D σ) (hI : SI σ) {x : Int32} : EV G (d + 7) m_To_below 0 (mx_lc0 m_To_below [.ref 0, .int x]) [] S D S (PC D σ (op_bel σ x)) := by
  by_cases h0 : x = nI 0
  · subst h0
    exact sp_To_below0 hS hC hI
  by_cases h1 : x = nI 1
  · subst h1
    exact sp_To_below1 hS hC hI
  have e : op_bel σ x = -1 := by unfold op_bel; rw [if_neg h0, if_neg h1]
  rw [e]
  show EV _ _ _ _ [some (.ref 0), some (.int x)] [] _ _ _ _
  refine EV.iload_n d_To_below_0 rfl ?_
  refine EV.T1 cs_To_115 d_To_below_1 (sp_To_isTextLine) ⟨Nat.le_refl _, Nat.le_refl _⟩ rfl rfl (Nat.le_of_ble_eq_true rfl) (fun rv D1 hp => ?_)
  obtain ⟨rfl, hD⟩ := hp
  obtain rfl := hD.symm
  refine EV.if_neB (tgt := 9) d_To_below_4 (by decide) (fun h4 => by have := of_decide_eq_true h4; exact (this.elim h0 h1).elim) (fun h4 => ?_)
  refine EV.iconst (v := (-1)) d_To_below_7 (by decide) ?_
  exact EV.ireturn d_To_below_8 ⟨_, rfl, rfl⟩ ⟨rfl, hC, fun _ _ => rfl⟩
