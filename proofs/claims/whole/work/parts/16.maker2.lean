theorem ps_orN {s c k : Nat} (hk : k = 1 ∨ k = 2) (hs : s < 256 ^ k) (hc : c < 128) : nI s ||| (nI c <<< (nI 8 * nI k &&& 31)) = nI (s + c * 256 ^ k) := by
  rcases hk with rfl | rfl
  · have e : nI c <<< (nI 8 * nI 1 &&& 31) = nI (c * 2 ^ 8) := pk_shlN (nI 8 * nI 1 &&& 31) 8 (by decide) (by omega)
    rw [e, nI_or (by omega) (by omega)]
  · have e : nI c <<< (nI 8 * nI 2 &&& 31) = nI (c * 2 ^ 16) := pk_shlN (nI 8 * nI 2 &&& 31) 16 (by decide) (by omega)
    rw [e, nI_or (by omega) (by omega)]
theorem ps_enc_mod (b : Nat) (hb : 0 < b) : ∀ (k : Nat) (s : List Nat), (∀ c ∈ s, c < b) → ps_enc b s % b ^ k = ps_enc b (s.take k) := by
  intro k
  induction k with
  | zero => intro s _; simp [ps_enc, Nat.mod_one]
  | succ k ih =>
    intro s hs
    cases s with
    | nil => simp [ps_enc]
    | cons c r =>
      have h1 := hs c List.mem_cons_self
      have h2 := ih r (fun x hx => hs x (List.mem_cons_of_mem _ hx))
      simp only [ps_enc, List.take_succ_cons]
      rw [← h2, Nat.pow_succ, Nat.mul_comm (b ^ k) b, Nat.mod_mul, Nat.add_mul_mod_self_left, Nat.mod_eq_of_lt h1, Nat.add_mul_div_left _ _ hb, Nat.div_eq_of_lt h1, Nat.zero_add]
/-- the string of entry j begins the text -/
theorem HdM_iff {tb : ps_T} {L : List Nat} {j : Nat} {e : List Nat × Nat} (hok : ps_ok tb) (hL : ∀ c ∈ L, 0 < c ∧ c < 128) (he : tb[j]? = some e) : HdM (fun j => ps_enc 256 ((tb.map Prod.fst).getD j [])) (ps_enc 256 (L.take 3)) j ↔ e.1 = L.take e.1.length := by
  have hso := (hok.1 e (List.mem_of_getElem? he)).1
  have hg : (tb.map Prod.fst).getD j [] = e.1 := by simp [he]
  unfold HdM
  dsimp only
  rw [hg, ps_len_enc hso, ps_enc_mod 256 (by decide) _ _ (fun c hc => by have := hL c (List.mem_of_mem_take hc); omega), List.take_take, Nat.min_eq_left hso.2.1]
  constructor
  · intro h
    exact (ps_enc_inj (fun c hc => by have := hL c (List.mem_of_mem_take hc); omega) (fun c hc => by have := hso.2.2 c hc; omega) h).symm
  · intro h
    rw [← h]
theorem ps_idx_at {tb : ps_T} {j : Nat} {e : List Nat × Nat} (hok : ps_ok tb) (he : tb[j]? = some e) : ps_idx tb e.1 = some j := by
  obtain ⟨i, hi⟩ := ps_has_idx ⟨e, List.mem_of_getElem? he, rfl⟩
  obtain ⟨⟨e', h1, h2⟩, -⟩ := ps_idx_some.mp hi
  rw [hi, hok.2.2 i j e' e h1 he h2]
theorem Lng_first {tb : ps_T} {L : List Nat} {c b bl : Nat} (hok : ps_ok tb) (hL : ∀ c ∈ L, 0 < c ∧ c < 128) (h1 : L.take 1 = [c]) (hc : ps_has tb [c]) (h : Lng (fun j => ps_enc 256 ((tb.map Prod.fst).getD j [])) (ps_enc 256 (L.take 3)) tb.length b bl) : ps_idx tb (ps_first tb L) = some b ∧ ps_so (ps_first tb L) ∧ ps_first tb L = L.take (ps_first tb L).length := by
  have hm : ∀ k e, ps_idx tb (L.take k) = some e → ∃ e', tb[e]? = some e' ∧ e'.1 = L.take k := fun k e he => (ps_idx_some.mp he).1
  have tk : ∀ k, L.take (L.take k).length = L.take k := fun k => by rw [List.length_take, List.take_eq_take_iff.mpr]; omega
  rcases h with ⟨-, -, h2⟩ | ⟨h2, h3, hbl, h4⟩
  · exfalso
    obtain ⟨e, he, hec⟩ := hc
    obtain ⟨j, hj⟩ := List.getElem?_of_mem he
    refine h2 j (List.getElem?_eq_some_iff.mp hj).1 ((HdM_iff hok hL hj).mpr ?_)
    rw [hec]
    exact h1.symm
  · obtain ⟨eb, heb⟩ : ∃ e, tb[b]? = some e := ⟨tb[b], List.getElem?_eq_getElem h2⟩
    have hso := (hok.1 eb (List.mem_of_getElem? heb)).1
    have hb := (HdM_iff hok hL heb).mp h3
    have hgb : (tb.map Prod.fst).getD b [] = eb.1 := by simp [heb]
    have hbL : eb.1.length ≤ L.length := by
      have := congrArg List.length hb
      rw [List.length_take] at this
      omega
    have hib := ps_idx_at hok heb
    -- a string of the table that begins the text is not longer
    have hmax : ∀ k j, ps_idx tb (L.take k) = some j → (L.take k).length ≤ eb.1.length := by
      intro k j hj
      obtain ⟨e', g1, g2⟩ := hm k j hj
      have g3 : HdM (fun j => ps_enc 256 ((tb.map Prod.fst).getD j [])) (ps_enc 256 (L.take 3)) j := (HdM_iff hok hL g1).mpr (by rw [g2, tk])
      have g4 := h4 j (List.getElem?_eq_some_iff.mp g1).1 g3
      have hgj : (tb.map Prod.fst).getD j [] = e'.1 := by simp [g1]
      dsimp only at g4
      rw [hgj, ps_len_enc (hok.1 e' (List.mem_of_getElem? g1)).1, g2] at g4
      have hbl2 : bl = eb.1.length := by
        rw [hbl]
        dsimp only
        rw [hgb, ps_len_enc hso]
      omega
    have key : ps_first tb L = eb.1 := by
      unfold ps_first
      have hs1 := hso.1
      have hs3 := hso.2.1
      cases i3 : ps_idx tb (L.take 3) with
      | some j =>
        rw [if_pos (show (some j).isSome = true from rfl)]
        have q := hmax 3 j i3
        rw [List.length_take] at q
        rw [hb, List.take_eq_take_iff.mpr]
        omega
      | none =>
        rw [if_neg (by simp)]
        cases i2 : ps_idx tb (L.take 2) with
        | some j =>
          rw [if_pos (show (some j).isSome = true from rfl)]
          have q := hmax 2 j i2
          rw [List.length_take] at q
          rw [hb, List.take_eq_take_iff.mpr]
          by_cases q3 : eb.1.length = 3
          · exfalso
            rw [← q3, ← hb, hib] at i3
            cases i3
          · omega
        | none =>
          rw [if_neg (by simp)]
          rw [hb, List.take_eq_take_iff.mpr]
          by_cases q3 : eb.1.length = 3
          · exfalso
            rw [← q3, ← hb, hib] at i3
            cases i3
          · by_cases q2 : eb.1.length = 2
            · exfalso
              rw [← q2, ← hb, hib] at i2
              cases i2
            · omega
    rw [key]
    exact ⟨hib, hso, hb⟩
set_option maxHeartbeats 4000000 in
set_option maxRecDepth 100000 in
theorem lp_Km_arrange20 {G : mx_G} {d : Nat} {S : List mx_Sh} {D0 : mx_Mem} {m t o n i c : Nat} {xs acc : List Nat} {f : Nat → Int32} {Post : Option Value → mx_Mem → Prop} (hM : ShM S m t) (hO : ShL S o n) (hmo : o + 1 < m ∨ m + 7 < o) (hX : LN D0 o xs) (hl : xs.length ≤ 12) (hn : xs.length ≤ n) (hn24 : n ≤ 24) (hch : ∀ c ∈ xs, 0 < c ∧ c < 128) (hi : i < xs.length) (hc : xs[i]? = some c) (hf : ar f acc) (hal : acc.length = i) (hac : ∀ x ∈ acc, 0 < x ∧ x < 128)
    (K : ∀ (p : Nat) (D : mx_Mem), p ≤ i → (∀ j x, p ≤ j → acc[j]? = some x → ps_must c x = true) → (p = 0 ∨ ∃ x, acc[p - 1]? = some x ∧ ps_must c x = false) → D (m + 1) = fx_ins f p (nI c) i → (∀ k, ¬ k = m → ¬ k = m + 1 → D k = D0 k) → (∀ j, ¬ j = 4 → D m j = D0 m j) → D m 4 = nI xs.length → EV G (d + 2) m_Km_arrange 76 [some (.ref m), some (.ref o), some (.int (nI i)), some (.int (nI p))] [] S D S Post) :
    ∀ (p : Nat) (D : mx_Mem), p ≤ i → (∀ j x, p ≤ j → acc[j]? = some x → ps_must c x = true) → D (m + 1) = fx_sh f p i → (∀ k, ¬ k = m → ¬ k = m + 1 → D k = D0 k) → (∀ j, ¬ j = 4 → D m j = D0 m j) → D m 4 = nI xs.length → EV G (d + 2) m_Km_arrange 20 [some (.ref m), some (.ref o), some (.int (nI i)), some (.int (nI p))] [] S D S Post := by
  obtain ⟨hm0, hm1, hm2, hm3, hm4, hm5, hm6, hm7⟩ := id hM
  obtain ⟨ho0, ho1⟩ := id hO
  have hcc := hch c (List.mem_of_getElem? hc)
  intro p
  induction p with
  | zero =>
    intro D h1 h2 hfs hof hoj hln
    have hcv : D (o + 1) i = nI c := by rw [hof (o + 1) (by omega) (by omega)]; exact hX.2 i c hc
    refine EV.iload_n d_Km_arrange_20 rfl ?_
    refine EV.if_leN (tgt := 64) d_Km_arrange_21 (by decide) rfl (by omega) (fun h21 => ?_) (fun h21 => ?_)
    · refine EV.aload_n d_Km_arrange_64 rfl ?_
      refine EV.getR fl_Km_15 d_Km_arrange_65 (by first | assumption | rfl) rfl ?_
      refine EV.iload_n d_Km_arrange_68 rfl ?_
      refine EV.aload_n d_Km_arrange_69 rfl ?_
      refine EV.getR fl_Km_58 d_Km_arrange_70 (by first | assumption | rfl) rfl ?_
      refine EV.iload_n d_Km_arrange_73 rfl ?_
      refine EV.caldN d_Km_arrange_74 (by first | assumption | rfl) rfl rfl (by omega) (by first | decide | omega) ?_
      refine EV.top hcv ?_
      refine EV.castN d_Km_arrange_75 (by first | assumption | rfl) rfl rfl (by omega) (by first | decide | omega) ⟨c, by omega, rfl⟩ ?_
      refine K 0 _ (by omega) h2 (Or.inl rfl) ?_ ?_ ?_ ?_
      · rw [mx_w_eq, hfs]; rfl
      · intro k k1 k2; rw [mx_w_ne _ _ _ k2]; exact hof k k1 k2
      · intro j hj; rw [mx_w_ne _ _ _ (by omega)]; exact hoj j hj
      · rw [mx_w_ne _ _ _ (by omega)]; exact hln
    · exfalso
      omega
  | succ p ih =>
    intro D h1 h2 hfs hof hoj hln
    have hcv : D (o + 1) i = nI c := by rw [hof (o + 1) (by omega) (by omega)]; exact hX.2 i c hc
    obtain ⟨x, hx⟩ : ∃ x, acc[p]? = some x := ⟨acc[p]'(by omega), List.getElem?_eq_getElem (by omega)⟩
    have hxx := hac x (List.mem_of_getElem? hx)
    have hxv : D (m + 1) p = nI x := by rw [hfs]; unfold fx_sh; rw [if_neg (by omega)]; exact hf p x hx
    refine EV.iload_n d_Km_arrange_20 rfl ?_
    refine EV.if_leN (tgt := 64) d_Km_arrange_21 (by decide) rfl (by omega) (fun h21 => ?_) (fun h21 => ?_)
    · exfalso
      omega
    · refine EV.aload_n d_Km_arrange_24 rfl ?_
      refine EV.getR fl_Km_58 d_Km_arrange_25 (by first | assumption | rfl) rfl ?_
      refine EV.iload_n d_Km_arrange_28 rfl ?_
      refine EV.caldN d_Km_arrange_29 (by first | assumption | rfl) rfl rfl (by omega) (by first | decide | omega) ?_
      refine EV.top hcv ?_
      refine EV.aload_n d_Km_arrange_30 rfl ?_
      refine EV.getR fl_Km_15 d_Km_arrange_31 (by first | assumption | rfl) rfl ?_
      refine EV.iload_n d_Km_arrange_34 rfl ?_
      refine EV.iconst (v := nI 1) d_Km_arrange_35 (by decide) ?_
      refine EV.isub d_Km_arrange_36 ?_
      refine EV.caldN d_Km_arrange_37 (by first | assumption | rfl) rfl (show _ = nI p from nI_pred p) (by omega) (by first | decide | omega) ?_
      refine EV.top hxv ?_
      refine EV.T2 cs_Km_61 d_Km_arrange_38 (sp_Km_mustPass (by omega) (by omega)) ⟨Nat.le_refl _, Nat.le_refl _⟩ rfl rfl (Nat.le_of_ble_eq_true rfl) (fun rv D1 hp => ?_)
      obtain ⟨rfl, hD⟩ := hp
      obtain rfl := hD.symm
      refine EV.if_eqB (tgt := 64) d_Km_arrange_41 (by decide) (fun h41 => ?_) (fun h41 => ?_)
      · refine EV.aload_n d_Km_arrange_64 rfl ?_
        refine EV.getR fl_Km_15 d_Km_arrange_65 (by first | assumption | rfl) rfl ?_
        refine EV.iload_n d_Km_arrange_68 rfl ?_
        refine EV.aload_n d_Km_arrange_69 rfl ?_
        refine EV.getR fl_Km_58 d_Km_arrange_70 (by first | assumption | rfl) rfl ?_
        refine EV.iload_n d_Km_arrange_73 rfl ?_
        refine EV.caldN d_Km_arrange_74 (by first | assumption | rfl) rfl rfl (by omega) (by first | decide | omega) ?_
        refine EV.top hcv ?_
        refine EV.castN d_Km_arrange_75 (by first | assumption | rfl) rfl rfl (by omega) (by first | decide | omega) ⟨c, by omega, rfl⟩ ?_
        refine K (p + 1) _ (by omega) h2 (Or.inr ⟨x, hx, h41⟩) ?_ ?_ ?_ ?_
        · rw [mx_w_eq, hfs]; rfl
        · intro k k1 k2; rw [mx_w_ne _ _ _ k2]; exact hof k k1 k2
        · intro j hj; rw [mx_w_ne _ _ _ (by omega)]; exact hoj j hj
        · rw [mx_w_ne _ _ _ (by omega)]; exact hln
      refine EV.aload_n d_Km_arrange_44 rfl ?_
      refine EV.getR fl_Km_15 d_Km_arrange_45 (by first | assumption | rfl) rfl ?_
      refine EV.iload_n d_Km_arrange_48 rfl ?_
      refine EV.aload_n d_Km_arrange_49 rfl ?_
      refine EV.getR fl_Km_15 d_Km_arrange_50 (by first | assumption | rfl) rfl ?_
      refine EV.iload_n d_Km_arrange_53 rfl ?_
      refine EV.iconst (v := nI 1) d_Km_arrange_54 (by decide) ?_
      refine EV.isub d_Km_arrange_55 ?_
      refine EV.caldN d_Km_arrange_56 (by first | assumption | rfl) rfl (show _ = nI p from nI_pred p) (by omega) (by first | decide | omega) ?_
      refine EV.castN d_Km_arrange_57 (by first | assumption | rfl) rfl rfl (by omega) (by first | decide | omega) ⟨x, by omega, hxv⟩ ?_
      refine EV.iincM d_Km_arrange_58 rfl (by decide) ?_
      refine EV.goto (tgt := 20) d_Km_arrange_61 (by decide) ?_
      refine ih _ (by omega) (fun j y hj hy => ?_) ?_ ?_ ?_ ?_
      · rcases Nat.lt_or_ge p j with q | q
        · exact h2 j y (by omega) hy
        · rw [show j = p by omega, hx] at hy
          cases hy
          exact h41
      · rw [mx_w_eq, hfs]; exact fx_sh_s _ (by omega)
      · intro k k1 k2; rw [mx_w_ne _ _ _ k2]; exact hof k k1 k2
      · intro j hj; rw [mx_w_ne _ _ _ (by omega)]; exact hoj j hj
      · rw [mx_w_ne _ _ _ (by omega)]; exact hln
set_option maxHeartbeats 4000000 in
set_option maxRecDepth 100000 in
theorem lp_Km_arrange {G : mx_G} {d : Nat} {S : List mx_Sh} {D0 : mx_Mem} {m t o n : Nat} {xs : List Nat} (hM : ShM S m t) (hO : ShL S o n) (hmo : o + 1 < m ∨ m + 7 < o) (hX : LN D0 o xs) (hl : xs.length ≤ 12) (hn : xs.length ≤ n) (hn24 : n ≤ 24) (hch : ∀ c ∈ xs, 0 < c ∧ c < 128) : ∀ (q i : Nat) (D : mx_Mem) (v3 : Option Value), i ≤ xs.length → xs.length - i = q → (∀ k, ¬ k = m → ¬ k = m + 1 → D k = D0 k) → (∀ j, ¬ j = 4 → D m j = D0 m j) → D m 4 = nI xs.length → ar (D (m + 1)) (ps_arr (xs.take i)) → EV G (d + 2) m_Km_arrange 10 [some (.ref m), some (.ref o), some (.int (nI i)), v3] [] S D S (fun rv D' => rv = none ∧ (∀ k, ¬ k = m → ¬ k = m + 1 → D' k = D0 k) ∧ (∀ j, ¬ j = 4 → D' m j = D0 m j) ∧ D' m 4 = nI xs.length ∧ ar (D' (m + 1)) (ps_arr xs)) := by
  obtain ⟨hm0, hm1, hm2, hm3, hm4, hm5, hm6, hm7⟩ := id hM
  obtain ⟨ho0, ho1⟩ := id hO
  intro q
  induction q with
  | zero =>
    intro i D v3 h1 h2 hof hoj hln har
    refine EV.iload_n d_Km_arrange_10 rfl ?_
    refine EV.aload_n d_Km_arrange_11 rfl ?_
    refine EV.getI fl_Km_57 d_Km_arrange_12 (by first | assumption | rfl) rfl ?_
    refine EV.icmp_geN (tgt := 82) d_Km_arrange_15 (by decide) rfl hln (by omega) (by omega) (fun h15 => ?_) (fun h15 => ?_)
    · exact EV.return_ d_Km_arrange_82 rfl ⟨rfl, hof, hoj, hln, by rw [List.take_of_length_le (by omega)] at har; exact har⟩
    · exfalso
      omega
  | succ q ih =>
    intro i D v3 h1 h2 hof hoj hln har
    obtain ⟨c, hc⟩ : ∃ c, xs[i]? = some c := ⟨xs[i]'(by omega), List.getElem?_eq_getElem (by omega)⟩
    have hal : (ps_arr (xs.take i)).length = i := by rw [ps_arr_len, List.length_take]; omega
    refine EV.iload_n d_Km_arrange_10 rfl ?_
    refine EV.aload_n d_Km_arrange_11 rfl ?_
    refine EV.getI fl_Km_57 d_Km_arrange_12 (by first | assumption | rfl) rfl ?_
    refine EV.icmp_geN (tgt := 82) d_Km_arrange_15 (by decide) rfl hln (by omega) (by omega) (fun h15 => ?_) (fun h15 => ?_)
    · exfalso
      omega
    · refine EV.iload_n d_Km_arrange_18 rfl ?_
      refine EV.istore_n d_Km_arrange_19 (by decide) ?_
      refine lp_Km_arrange20 hM hO hmo hX hl hn hn24 hch (by omega) hc har hal (fun x hx => hch x (List.mem_of_mem_take ((ps_arr_mem _).mp hx))) ?_ i D (by omega) (fun j x hj hx => ?_) (fx_sh_0 _ _).symm hof hoj hln
      · intro p D2 k1 k2 k3 k4 k5 k6 k7
        refine EV.iincN d_Km_arrange_76 rfl (by decide) ?_
        refine EV.goto (tgt := 10) d_Km_arrange_79 (by decide) ?_
        refine ih (i + 1) D2 _ (by omega) (by omega) k5 k6 k7 ?_
        rw [List.take_add_one, hc]
        show ar _ (ps_arr (xs.take i ++ [c]))
        rw [ps_arr_put (by omega) k2 k3, k4]
        have := ar_put (c := c) har (p := p) (by omega)
        rw [hal] at this
        exact this
      · exfalso
        have := (List.getElem?_eq_some_iff.mp hx).1
        omega
set_option maxHeartbeats 4000000 in
set_option maxRecDepth 100000 in
theorem sp_Km_arrange {G : mx_G} {d : Nat} {S : List mx_Sh} {D0 : mx_Mem} {m t o n : Nat} {xs : List Nat} (hM : ShM S m t) (hO : ShL S o n) (hmo : o + 1 < m ∨ m + 7 < o) (hX : LN D0 o xs) (hl : xs.length ≤ 12) (hn : xs.length ≤ n) (hn24 : n ≤ 24) (hch : ∀ c ∈ xs, 0 < c ∧ c < 128) : EV G (d + 2) m_Km_arrange 0 (mx_lc0 m_Km_arrange [.ref m, .ref o]) [] S D0 S (fun rv D' => rv = none ∧ (∀ k, ¬ k = m → ¬ k = m + 1 → D' k = D0 k) ∧ (∀ j, ¬ j = 4 → D' m j = D0 m j) ∧ D' m 4 = nI xs.length ∧ ar (D' (m + 1)) (ps_arr xs)) := by
  obtain ⟨hm0, hm1, hm2, hm3, hm4, hm5, hm6, hm7⟩ := id hM
  obtain ⟨ho0, ho1⟩ := id hO
  show EV _ _ _ _ [some (.ref m), some (.ref o), none, none] [] _ _ _ _
  refine EV.aload_n d_Km_arrange_0 rfl ?_
  refine EV.aload_n d_Km_arrange_1 rfl ?_
  refine EV.getI fl_Km_54 d_Km_arrange_2 (by first | assumption | rfl) rfl ?_
  refine EV.top hX.1 ?_
  refine EV.putI fl_Km_57 d_Km_arrange_5 (by first | assumption | rfl) rfl rfl rfl ?_
  refine EV.iconst (v := nI 0) d_Km_arrange_8 (by decide) ?_
  refine EV.istore_n d_Km_arrange_9 (by decide) ?_
  refine EV.post (fun rv D' h => ⟨h.1, fun k k1 k2 => (h.2.1 k k1 k2).trans (by simp [mx_w, va_up, k1]), fun j hj => (h.2.2.1 j hj).trans (by simp [mx_w, va_up, upd, hj]), h.2.2.2⟩) (lp_Km_arrange hM hO hmo ⟨by simp [mx_w, va_up, show ¬ o = m by omega]; exact hX.1, by simp [mx_w, va_up, show ¬ o + 1 = m by omega]; exact hX.2⟩ hl hn hn24 hch xs.length 0 _ none (by omega) rfl (fun _ _ _ => rfl) (fun _ _ => rfl) (by simp [mx_w, va_up, upd]) (ar_nil _))
set_option maxHeartbeats 4000000 in
set_option maxRecDepth 100000 in
theorem lp_Km_headAt {G : mx_G} {d : Nat} {S : List mx_Sh} {D : mx_Mem} {m t a : Nat} {l : List Nat} (hM : ShM S m t) (har : ar (D (m + 1)) l) (hln : D m 4 = nI l.length) (hl : l.length ≤ 12) (ha : a < l.length) (hch : ∀ c ∈ l, 0 < c ∧ c < 128) : ∀ q k : Nat, 1 ≤ k → k ≤ 3 → 3 - k = q → EV G d m_Km_headAt 9 [some (.ref m), some (.int (nI a)), some (.int (nI (ps_enc 256 ((l.drop a).take k)))), some (.int (nI k))] [] S D S (RI (nI (ps_enc 256 ((l.drop a).take 3))) D) := by
  obtain ⟨hm0, hm1, hm2, hm3, hm4, hm5, hm6, hm7⟩ := id hM
  intro q
  induction q with
  | zero =>
    intro k h1 h2 h3
    obtain rfl : k = 3 := by omega
    refine EV.iload_n d_Km_headAt_9 rfl ?_
    refine EV.iconst (v := nI 3) d_Km_headAt_10 (by decide) ?_
    refine EV.icmp_geN (tgt := 46) d_Km_headAt_11 (by decide) rfl rfl (by omega) (by omega) (fun h11 => ?_) (fun h11 => ?_)
    · refine EV.iload_n d_Km_headAt_46 rfl ?_
      exact EV.ireturn d_Km_headAt_47 ⟨_, rfl, rfl⟩ ⟨rfl, rfl⟩
    · exfalso
      omega
  | succ q ih =>
    intro k h1 h2 h3
    refine EV.iload_n d_Km_headAt_9 rfl ?_
    refine EV.iconst (v := nI 3) d_Km_headAt_10 (by decide) ?_
    refine EV.icmp_geN (tgt := 46) d_Km_headAt_11 (by decide) rfl rfl (by omega) (by omega) (fun h11 => ?_) (fun h11 => ?_)
    · exfalso
      omega
    · refine EV.iload_n d_Km_headAt_14 rfl ?_
      refine EV.iload_n d_Km_headAt_15 rfl ?_
      refine EV.iadd d_Km_headAt_16 ?_
      refine EV.aload_n d_Km_headAt_17 rfl ?_
      refine EV.getI fl_Km_57 d_Km_headAt_18 (by first | assumption | rfl) rfl ?_
      refine EV.icmp_geN (tgt := 46) d_Km_headAt_21 (by decide) (nI_add a k) hln (by omega) (by omega) (fun h21 => ?_) (fun h21 => ?_)
      · refine EV.iload_n d_Km_headAt_46 rfl ?_
        exact EV.ireturn d_Km_headAt_47 ⟨_, rfl, rfl⟩ ⟨by rw [List.take_of_length_le (by rw [List.length_drop]; omega), List.take_of_length_le (i := 3) (by rw [List.length_drop]; omega)], rfl⟩
      · obtain ⟨c, hc⟩ : ∃ c, l[a + k]? = some c := ⟨l[a + k]'(by omega), List.getElem?_eq_getElem (by omega)⟩
        have hcc := hch c (List.mem_of_getElem? hc)
        have htk : (l.drop a).take (k + 1) = (l.drop a).take k ++ [c] := by rw [List.take_add_one, List.getElem?_drop, hc]; rfl
        have hlk : ((l.drop a).take k).length = k := by rw [List.length_take, List.length_drop]; omega
        have hlt := ps_enc_lt (b := 256) (s := (l.drop a).take k) (fun x hx => by have := hch x (List.mem_of_mem_drop (List.mem_of_mem_take hx)); omega)
        rw [hlk] at hlt
        refine EV.iload_n d_Km_headAt_24 rfl ?_
        refine EV.aload_n d_Km_headAt_25 rfl ?_
        refine EV.getR fl_Km_15 d_Km_headAt_26 (by first | assumption | rfl) rfl ?_
        refine EV.iload_n d_Km_headAt_29 rfl ?_
        refine EV.iload_n d_Km_headAt_30 rfl ?_
        refine EV.iadd d_Km_headAt_31 ?_
        refine EV.caldN d_Km_headAt_32 (by first | assumption | rfl) rfl (nI_add a k) (by omega) (by first | decide | omega) ?_
        refine EV.top (har _ c hc) ?_
        refine EV.bipush (v := nI 8) d_Km_headAt_33 (by decide) ?_
        refine EV.iload_n d_Km_headAt_35 rfl ?_
        refine EV.imul d_Km_headAt_36 ?_
        refine EV.ishl d_Km_headAt_37 ?_
        refine EV.ior d_Km_headAt_38 ?_
        refine EV.top (y := nI (ps_enc 256 ((l.drop a).take (k + 1)))) (by rw [htk, ps_enc_snoc, hlk]; exact ps_orN (by omega) hlt hcc.2) ?_
        refine EV.istore_n d_Km_headAt_39 (by decide) ?_
        refine EV.iincN d_Km_headAt_40 rfl (by decide) ?_
        refine EV.goto (tgt := 9) d_Km_headAt_43 (by decide) ?_
        exact ih (k + 1) (by omega) (by omega) (by omega)
set_option maxHeartbeats 4000000 in
set_option maxRecDepth 100000 in
theorem sp_Km_headAt {G : mx_G} {d : Nat} {S : List mx_Sh} {D : mx_Mem} {m t a : Nat} {l : List Nat} (hM : ShM S m t) (har : ar (D (m + 1)) l) (hln : D m 4 = nI l.length) (hl : l.length ≤ 12) (ha : a < l.length) (hch : ∀ c ∈ l, 0 < c ∧ c < 128) : EV G d m_Km_headAt 0 (mx_lc0 m_Km_headAt [.ref m, .int (nI a)]) [] S D S (RI (nI (ps_enc 256 ((l.drop a).take 3))) D) := by
  obtain ⟨hm0, hm1, hm2, hm3, hm4, hm5, hm6, hm7⟩ := id hM
  show EV _ _ _ _ [some (.ref m), some (.int (nI a)), none, none] [] _ _ _ _
  refine EV.aload_n d_Km_headAt_0 rfl ?_
  refine EV.getR fl_Km_15 d_Km_headAt_1 (by first | assumption | rfl) rfl ?_
  refine EV.iload_n d_Km_headAt_4 rfl ?_
  refine EV.caldN d_Km_headAt_5 (by first | assumption | rfl) rfl rfl (by omega) (by first | decide | omega) ?_
  obtain ⟨c, hc⟩ : ∃ c, l[a]? = some c := ⟨l[a]'ha, List.getElem?_eq_getElem ha⟩
  refine EV.top (y := nI (ps_enc 256 ((l.drop a).take 1))) (by
    rw [har a c hc, List.drop_eq_getElem_cons ha, (List.getElem?_eq_some_iff.mp hc).2]
    simp [ps_enc]) ?_
  refine EV.istore_n d_Km_headAt_6 (by decide) ?_
  refine EV.iconst (v := nI 1) d_Km_headAt_7 (by decide) ?_
  refine EV.istore_n d_Km_headAt_8 (by decide) ?_
  exact lp_Km_headAt hM har hln hl ha hch 2 1 (by omega) (by omega) rfl
