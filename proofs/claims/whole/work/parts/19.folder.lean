theorem ps_abs_sub (tb : ps_T) : ∀ (r s ps : List Nat), (∀ x ∈ (ps_abs tb s ps r).2.1, x ∈ ps ∨ x ∈ r) ∧ ∀ x ∈ (ps_abs tb s ps r).2.2, x ∈ r := by
  intro r
  induction r with
  | nil => intro s ps; exact ⟨fun x hx => Or.inl hx, fun x hx => hx⟩
  | cons m r ih =>
    intro s ps
    simp only [ps_abs]
    split
    · split
      · obtain ⟨h1, h2⟩ := ih (s ++ [m]) ps
        exact ⟨fun x hx => (h1 x hx).imp id (List.mem_cons_of_mem _), fun x hx => List.mem_cons_of_mem _ (h2 x hx)⟩
      · obtain ⟨h1, h2⟩ := ih s (ps ++ [m])
        refine ⟨fun x hx => ?_, fun x hx => List.mem_cons_of_mem _ (h2 x hx)⟩
        rcases h1 x hx with h | h
        · rcases List.mem_append.mp h with h | h
          · exact Or.inl h
          · simp at h; subst h; exact Or.inr List.mem_cons_self
        · exact Or.inr (List.mem_cons_of_mem _ h)
    · exact ⟨fun x hx => Or.inl hx, fun x hx => hx⟩
theorem ps_wof_le {tb : ps_T} (h : tb.length ≤ 30) (s : List Nat) : (ps_wof tb s).1 ≤ 32 ∧ (ps_wof tb s).2.1 ≤ 32 ∧ (ps_wof tb s).2.2 ≤ 32 := by
  unfold ps_wof
  have h1 := ps_wt_le (ps_stp tb) ((ps_idx tb s).getD 0 + 1)
  have h2 : (ps_idx tb s).getD 0 ≤ 30 := by
    cases q : ps_idx tb s with
    | none => simp
    | some i => have := ps_idx_lt q; simp; omega
  omega
theorem el_ms_lv {sh v : Bool} {ps : List Nat} (h : ∀ c ∈ ps, c < 128) {e : ps_E} (he : e ∈ el_ms sh v ps) (k : Nat) : ps_lv e k < 2000 := by
  unfold el_ms at he
  split at he
  · cases he
  · obtain ⟨c, hc, rfl⟩ := List.mem_map.mp he
    have := h c hc
    unfold el_m ps_lv
    split <;> simp <;> omega
theorem ps_els_lv {tb : ps_T} (h30 : tb.length ≤ 30) (sh : Bool) : ∀ (n : Nat) (v : Bool) (l : List Nat), (∀ c ∈ l, c < 128) → ∀ e ∈ ps_els tb sh n v l, ∀ k, ps_lv e k < 2000 := by
  intro n
  induction n with
  | zero => intro v l _ e he; cases he
  | succ n ih =>
    intro v l hl e he k
    cases l with
    | nil => cases he
    | cons c r =>
      simp only [ps_els] at he
      split at he
      · rcases List.mem_append.mp he with he | he
        · exact el_ms_lv (fun x hx => by simp at hx; subst hx; exact hl x List.mem_cons_self) he k
        · exact ih v r (fun x hx => hl x (List.mem_cons_of_mem _ hx)) e he k
      · have hs := ps_abs_sub tb ((c :: r).drop (ps_first tb (c :: r)).length) (ps_first tb (c :: r)) []
        generalize ps_abs tb (ps_first tb (c :: r)) [] ((c :: r).drop (ps_first tb (c :: r)).length) = A at he hs
        rcases List.mem_cons.mp he with rfl | he
        · have := ps_wof_le h30 A.1
          unfold el_e
          split
          · unfold ps_lv; split <;> simp <;> omega
          · unfold ps_lv
            split <;> simp <;> first | omega | (split <;> omega)
        · rcases List.mem_append.mp he with he | he
          · exact el_ms_lv (fun x hx => by
              rcases hs.1 x hx with h | h
              · cases h
              · exact hl x (List.mem_of_mem_drop h)) he k
          · exact ih _ _ (fun x hx => hl x (List.mem_of_mem_drop (hs.2 x hx))) e he k
theorem ps_key_lt {bw : Bool} {es : List ps_E} (h : ∀ e ∈ es, ∀ k, ps_lv e k < 2000) : ∀ n, ∀ w ∈ ps_key bw es n, w < 2000 := by
  intro n
  induction n with
  | zero => intro w hw; cases hw
  | succ n ih =>
    intro w hw
    rw [ps_key] at hw
    rcases List.mem_append.mp hw with hw | hw
    · exact ih w hw
    · unfold ps_row at hw
      rcases List.mem_append.mp hw with hw | hw
      · obtain ⟨e, he, rfl⟩ := List.mem_map.mp (List.mem_filter.mp hw).1
        refine h e ?_ n
        split at he
        · exact List.mem_reverse.mp he
        · exact he
      · simp at hw; omega
/-- which cells the making of a key may change -/
def FrK (m k : Nat) (D D' : mx_Mem) : Prop := ∀ q, (q < m ∨ m + 7 < q) → ¬ q = k → ¬ q = k + 1 → D' q = D q
/-- a text that can be typed -/
def ps_tx (tb : ps_T) (xs : List Nat) : Prop := xs.length ≤ 12 ∧ (∀ c ∈ xs, 0 < c ∧ c < 128) ∧ ∀ c ∈ xs, ps_mark c = false → ps_has tb [c]
def ShF (S : List mx_Sh) (f : Nat) : Prop := S[f]? = some (.inl (0, [some (some (f + 1)), some (some (f + 2)), some (some (f + 3)), none, none])) ∧ S[f + 1]? = some (.inr (.inr (2, (List.range 10).map fun i => some (f + 4 + 4 * i)))) ∧ S[f + 2]? = some (.inr (.inl (0, 10))) ∧ S[f + 3]? = some (.inr (.inr (3, (List.range 10).map fun i => some (f + 6 + 4 * i)))) ∧ ∀ i, i < 10 → ShL S (f + 4 + 4 * i) 12 ∧ ShK S (f + 6 + 4 * i)
theorem ShF_t {f i : Nat} (h : i < 10) : ((List.range 10).map fun i => some (f + 4 + 4 * i))[i]? = some (some (f + 4 + 4 * i)) := by simp [h]
theorem ShF_k {f i : Nat} (h : i < 10) : ((List.range 10).map fun i => some (f + 6 + 4 * i))[i]? = some (some (f + 6 + 4 * i)) := by simp [h]
abbrev ps_F : Type := List (Nat × List Nat)
/-- the file: numbers and texts -/
def FO (D : mx_Mem) (f : Nat) (fl : ps_F) : Prop := D f 3 = nI fl.length ∧ (∀ (i : Nat) (e : Nat × List Nat), fl[i]? = some e → D (f + 2) i = nI e.1 ∧ LN D (f + 4 + 4 * i) e.2) ∧ ∀ i, i < 10 → ∃ xs : List Nat, LN D (f + 4 + 4 * i) xs
/-- the keys of the file's texts -/
def KS (D : mx_Mem) (f : Nat) (ks : List (List Nat)) : Prop := ∀ (i : Nat) (y : List Nat), ks[i]? = some y → LN D (f + 6 + 4 * i) y ∧ y.length ≤ 52 ∧ ∀ w ∈ y, w < 2 ^ 31
def ps_cl (ks : List (List Nat)) (y : List Nat) : Nat := (ks.filter fun k => decide (ps_cmp k y < 0)).length
def ps_eqc (ks : List (List Nat)) (y : List Nat) : Nat := (ks.filter fun k => decide (ps_cmp k y = 0)).length
theorem ps_cl_snoc (ks : List (List Nat)) (x y : List Nat) : ps_cl (ks ++ [x]) y = ps_cl ks y + if ps_cmp x y < 0 then 1 else 0 := by
  unfold ps_cl
  rw [List.filter_append, List.length_append]
  congr 1
  by_cases h : ps_cmp x y < 0 <;> simp [h]
theorem ps_eqc_snoc (ks : List (List Nat)) (x y : List Nat) : ps_eqc (ks ++ [x]) y = ps_eqc ks y + if ps_cmp x y = 0 then 1 else 0 := by
  unfold ps_eqc
  rw [List.filter_append, List.length_append]
  congr 1
  by_cases h : ps_cmp x y = 0 <;> simp [h]
def ps_plc (ks : List (List Nat)) (i : Nat) : Nat := ps_cl ks (ks.getD i []) + ps_eqc (ks.take i) (ks.getD i [])
/-- the number of the text at place x -/
def NumP (fl : ps_F) (ks : List (List Nat)) (x r : Int32) : Prop := (∃ i e, fl[i]? = some e ∧ nI (ps_plc ks i) = x ∧ (∀ j, j < i → ¬ nI (ps_plc ks j) = x) ∧ r = nI e.1) ∨ ((∀ j, j < fl.length → ¬ nI (ps_plc ks j) = x) ∧ r = -1)
theorem FO_kept {D D' : mx_Mem} {f : Nat} {fl : ps_F} (h : FO D f fl) (hl : fl.length ≤ 10) (h0 : D' f 3 = D f 3) (h2 : D' (f + 2) = D (f + 2)) (ht : ∀ i, i < 10 → D' (f + 4 + 4 * i) = D (f + 4 + 4 * i) ∧ D' (f + 4 + 4 * i + 1) = D (f + 4 + 4 * i + 1)) : FO D' f fl := by
  refine ⟨by rw [h0]; exact h.1, fun i e he => ?_, fun i hi => ?_⟩
  · have hi : i < fl.length := (List.getElem?_eq_some_iff.mp he).1
    obtain ⟨a, b⟩ := h.2.1 i e he
    obtain ⟨c, d⟩ := ht i (by omega)
    rw [h2]
    exact ⟨a, by unfold LN; rw [c, d]; exact b⟩
  · obtain ⟨xs, hx⟩ := h.2.2 i hi
    obtain ⟨c, d⟩ := ht i hi
    exact ⟨xs, by unfold LN; rw [c, d]; exact hx⟩
set_option maxHeartbeats 4000000 in
set_option maxRecDepth 100000 in
theorem lp_Km_make {G : mx_G} {d : Nat} {S : List mx_Sh} {D0 : mx_Mem} {m t o k str : Nat} {bw : Bool} {es : List ps_E} (hM : ShM S m t) (hK : ShK S k) (hmk : k + 1 < m ∨ m + 7 < k) (hE : WE D0 m es) (hel : es.length ≤ 12) (hw : ∀ e ∈ es, ∀ lv, ps_lv e lv < 2000) (hst : D0 m 7 = nI str) (hs4 : str ≤ 4) (hbw : D0 m 9 = bI bw) : ∀ (n i : Nat) (D : mx_Mem), i ≤ str → str - i = n → (∀ q, ¬ q = k → ¬ q = k + 1 → D q = D0 q) → LN D k (ps_key bw es i) → EV G (d + 5) m_Km_make 16 [some (.ref m), some (.ref o), some (.ref k), some (.int (nI i))] [] S D S (fun rv D' => rv = none ∧ (∀ q, ¬ q = k → ¬ q = k + 1 → D' q = D0 q) ∧ LN D' k (ps_key bw es str)) := by
  obtain ⟨hm0, hm1, hm2, hm3, hm4, hm5, hm6, hm7⟩ := id hM
  obtain ⟨hk0, hk1⟩ := id hK
  intro n
  induction n with
  | zero =>
    intro i D h1 h2 hF hL
    have hst2 : D m 7 = nI str := by rw [hF m (by omega) (by omega)]; exact hst
    refine EV.iload_n d_Km_make_16 rfl ?_
    refine EV.aload_n d_Km_make_17 rfl ?_
    refine EV.getI fl_Km_27 d_Km_make_18 (by first | assumption | rfl) rfl ?_
    refine EV.icmp_geN (tgt := 36) d_Km_make_21 (by decide) rfl hst2 (by omega) (by omega) (fun h21 => ?_) (fun h21 => ?_)
    · exact EV.return_ d_Km_make_36 rfl ⟨rfl, hF, by rw [show str = i by omega]; exact hL⟩
    · exfalso
      omega
  | succ n ih =>
    intro i D h1 h2 hF hL
    have hst2 : D m 7 = nI str := by rw [hF m (by omega) (by omega)]; exact hst
    have hkl := ps_key_len bw es i
    have hmul : i * (es.length + 1) ≤ 3 * 13 := Nat.mul_le_mul (by omega) (by omega)
    refine EV.iload_n d_Km_make_16 rfl ?_
    refine EV.aload_n d_Km_make_17 rfl ?_
    refine EV.getI fl_Km_27 d_Km_make_18 (by first | assumption | rfl) rfl ?_
    refine EV.icmp_geN (tgt := 36) d_Km_make_21 (by decide) rfl hst2 (by omega) (by omega) (fun h21 => ?_) (fun h21 => ?_)
    · exfalso
      omega
    · refine EV.aload_n d_Km_make_24 rfl ?_
      refine EV.iload_n d_Km_make_25 rfl ?_
      refine EV.aload_n d_Km_make_26 rfl ?_
      refine EV.V2 cv_Km_50 d_Km_make_27 (by first | assumption | rfl) (EV.deep (d2 := d + 1) (by omega) (sp_Km_writeLevel (lv := i) (bw := bw) (es := es) hM hK hmk (WE_kept hE (by rw [hF m (by omega) (by omega)]) (fun j a b => hF (m + j) (by omega) (by omega))) hel (by omega) (fun e he => by have := hw e he i; omega) (by omega) (by rw [hF m (by omega) (by omega)]; exact hbw) hL)) ⟨Nat.le_refl _, Nat.le_refl _⟩ rfl rfl (Nat.le_of_ble_eq_true rfl) (fun rv D1 hp => ?_)
      obtain ⟨rfl, q1, q2⟩ := hp
      refine EV.iincN d_Km_make_30 rfl (by decide) ?_
      refine EV.goto (tgt := 16) d_Km_make_33 (by decide) ?_
      exact ih (i + 1) D1 (by omega) (by omega) (fun q a b => (q1 q a b).trans (hF q a b)) q2
set_option maxHeartbeats 4000000 in
set_option maxRecDepth 100000 in
theorem sp_Km_make {G : mx_G} {d : Nat} {S : List mx_Sh} {D0 : mx_Mem} {m t o k n str : Nat} {tb : ps_T} {sh bw : Bool} {xs : List Nat} (hM : ShM S m t) (hT : ShT S t) (hmt : t + 5 < m ∨ m + 7 < t) (hO : ShL S o n) (hmo : o + 1 < m ∨ m + 7 < o) (hn : 12 ≤ n ∧ n ≤ 24) (hK : ShK S k) (hmk : k + 1 < m ∨ m + 7 < k) (htk : k + 1 < t ∨ t + 5 < k) (hto : o + 1 < t ∨ t + 5 < o) (hok2 : k + 1 < o ∨ o + 1 < k) (hB : TBw D0 t tb) (hok : ps_ok tb) (hX : LN D0 o xs) (htx : ps_tx tb xs) (hst : D0 m 7 = nI str) (hstr : str ≤ 4) (hsh : D0 m 8 = bI sh) (hbw : D0 m 9 = bI bw) : EV G (d + 5) m_Km_make 0 (mx_lc0 m_Km_make [.ref m, .ref o, .ref k]) [] S D0 S (fun rv D' => rv = none ∧ FrK m k D0 D' ∧ (∀ j, ¬ j = 4 → ¬ j = 5 → ¬ j = 6 → D' m j = D0 m j) ∧ LN D' k (ps_kt tb sh bw str xs) ∧ (ps_kt tb sh bw str xs).length ≤ 52 ∧ ∀ w ∈ ps_kt tb sh bw str xs, w < 2 ^ 31) := by
  obtain ⟨hm0, hm1, hm2, hm3, hm4, hm5, hm6, hm7⟩ := id hM
  obtain ⟨hs0, hs1, hs2, hs3, hs4, hs5⟩ := id hT
  obtain ⟨hk0, hk1⟩ := id hK
  show EV _ _ _ _ [some (.ref m), some (.ref o), some (.ref k), none] [] _ _ _ _
  refine EV.aload_n d_Km_make_0 rfl ?_
  refine EV.aload_n d_Km_make_1 rfl ?_
  refine EV.V1 cv_Km_38 d_Km_make_2 (by first | assumption | rfl) (EV.deep (d2 := d + 2) (by omega) (sp_Km_arrange hM hO hmo hX htx.1 (by have := htx.1; omega) hn.2 htx.2.1)) ⟨Nat.le_refl _, Nat.le_refl _⟩ rfl rfl (Nat.le_of_ble_eq_true rfl) (fun rv D1 hp => ?_)
  obtain ⟨rfl, a1, a2, a3, a4⟩ := hp
  refine EV.aload_n d_Km_make_5 rfl ?_
  refine EV.V0 cv_Km_42 d_Km_make_6 (by first | assumption | rfl) (sp_Km_findElements (tb := tb) (sh := sh) hM hT hmt (TBw_kept hB (fun j hj => a1 (t + j) (by omega) (by omega))) hok a4 (by rw [ps_arr_len]; exact a3) (by rw [ps_arr_len]; exact htx.1) (fun c hc => htx.2.1 c ((ps_arr_mem _).mp hc)) (fun c hc => htx.2.2 c ((ps_arr_mem _).mp hc)) (by rw [a2 8 (by decide)]; exact hsh)) ⟨Nat.le_refl _, Nat.le_refl _⟩ rfl rfl (Nat.le_of_ble_eq_true rfl) (fun rv D1 hp => ?_)
  obtain ⟨rfl, b1, b2, b3, b4⟩ := hp
  rw [ps_arr_len] at b3 b4
  refine EV.aload_n d_Km_make_9 rfl ?_
  refine EV.iconst (v := nI 0) d_Km_make_10 (by decide) ?_
  refine EV.putI fl_Km_45 d_Km_make_11 (by first | assumption | rfl) rfl rfl rfl ?_
  refine EV.iconst (v := nI 0) d_Km_make_14 (by decide) ?_
  refine EV.istore_n d_Km_make_15 (by decide) ?_
  have hlv := ps_els_lv hok.2.1 sh xs.length false (ps_arr xs) (fun c hc => (htx.2.1 c ((ps_arr_mem _).mp hc)).2)
  have hkl := ps_key_len bw (ps_els tb sh xs.length false (ps_arr xs)) str
  have hmul : str * ((ps_els tb sh xs.length false (ps_arr xs)).length + 1) ≤ 4 * 13 := Nat.mul_le_mul (by omega) (by omega)
  refine EV.post (fun rv D' h => ⟨h.1, fun q q1 q2 q3 => ?_, fun j j4 j5 j6 => ?_, h.2.2, by unfold ps_kt; omega, fun w hw => by have := ps_key_lt hlv str w hw; omega⟩) (lp_Km_make (bw := bw) (es := ps_els tb sh xs.length false (ps_arr xs)) (str := str) hM hK hmk (WE_kept b3 (by simp [mx_w, va_up, show ¬ m = k by omega]) (fun j a b => by simp [mx_w, va_up, show ¬ m + j = k by omega])) b4 hlv ?_ hstr ?_ str 0 _ (by omega) rfl (fun _ _ _ => rfl) ⟨by simp [mx_w, va_up, upd, ps_key], by simp [mx_w, va_up, ps_key]; exact ar_nil _⟩)
  · rw [h.2.1 q q2 q3, mx_w_ne _ _ _ q2, b1 q (by omega) (by omega) (by omega) (by omega) (by omega) (by omega), a1 q (by omega) (by omega)]
  · rw [h.2.1 m (by omega) (by omega), mx_w_ne _ _ _ (by omega), b2 j j5 j6, a2 j j4]
  · rw [mx_w_ne _ _ _ (by omega), b2 7 (by decide) (by decide), a2 7 (by decide)]; exact hst
  · rw [mx_w_ne _ _ _ (by omega), b2 9 (by decide) (by decide), a2 9 (by decide)]; exact hbw
set_option maxHeartbeats 4000000 in
set_option maxRecDepth 100000 in
theorem lp_Fo_countLess {G : mx_G} {d : Nat} {S : List mx_Sh} {D : mx_Mem} {f k : Nat} {ks : List (List Nat)} {y : List Nat} (hF : ShF S f) (hK : ShK S k) (hc : D f 3 = nI ks.length) (hl : ks.length ≤ 10) (hKS : KS D f ks) (hY : LN D k y) (hy : y.length ≤ 52) (hyw : ∀ w ∈ y, w < 2 ^ 31) : ∀ n i : Nat, i ≤ ks.length → ks.length - i = n → EV G (d + 2) m_Fo_countLess 4 [some (.ref f), some (.ref k), some (.int (nI (ps_cl (ks.take i) y))), some (.int (nI i))] [] S D S (RI (nI (ps_cl ks y)) D) := by
  obtain ⟨hf0, hf1, hf2, hf3, hf4⟩ := id hF
  intro n
  induction n with
  | zero =>
    intro i h1 h2
    refine EV.iload_n d_Fo_countLess_4 rfl ?_
    refine EV.aload_n d_Fo_countLess_5 rfl ?_
    refine EV.getI fl_Fo_31 d_Fo_countLess_6 (by first | assumption | rfl) rfl ?_
    refine EV.icmp_geN (tgt := 34) d_Fo_countLess_9 (by decide) rfl hc (by omega) (by omega) (fun h9 => ?_) (fun h9 => ?_)
    · refine EV.iload_n d_Fo_countLess_34 rfl ?_
      exact EV.ireturn d_Fo_countLess_35 ⟨_, rfl, rfl⟩ ⟨by rw [List.take_of_length_le (by omega)], rfl⟩
    · exfalso
      omega
  | succ n ih =>
    intro i h1 h2
    obtain ⟨x, hx⟩ : ∃ x, ks[i]? = some x := ⟨ks[i]'(by omega), List.getElem?_eq_getElem (by omega)⟩
    have htk : ps_cl (ks.take (i + 1)) y = ps_cl (ks.take i) y + if ps_cmp x y < 0 then 1 else 0 := by rw [List.take_add_one, hx]; exact ps_cl_snoc _ _ _
    have K := ih (i + 1) (by omega) (by omega)
    rw [htk] at K
    obtain ⟨k1, k2, k3⟩ := hKS i x hx
    have hsh := (hf4 i (by omega)).2
    obtain ⟨hsh0, hsh1⟩ := id hsh
    refine EV.iload_n d_Fo_countLess_4 rfl ?_
    refine EV.aload_n d_Fo_countLess_5 rfl ?_
    refine EV.getI fl_Fo_31 d_Fo_countLess_6 (by first | assumption | rfl) rfl ?_
    refine EV.icmp_geN (tgt := 34) d_Fo_countLess_9 (by decide) rfl hc (by omega) (by omega) (fun h9 => ?_) (fun h9 => ?_)
    · exfalso
      omega
    · refine EV.aload_n d_Fo_countLess_12 rfl ?_
      refine EV.getR fl_Fo_23 d_Fo_countLess_13 (by first | assumption | rfl) rfl ?_
      refine EV.iload_n d_Fo_countLess_16 rfl ?_
      refine EV.aaldN d_Fo_countLess_17 (by first | assumption | rfl) rfl rfl rfl (by omega) (ShF_k (by omega)) ?_
      refine EV.aload_n d_Fo_countLess_18 rfl ?_
      refine EV.V1 cv_Fo_53 d_Fo_countLess_19 (by first | assumption | rfl) (sp_Ke_against hsh hK k1 hY k2 hy k3 hyw) ⟨Nat.le_refl _, Nat.le_refl _⟩ rfl rfl (Nat.le_of_ble_eq_true rfl) (fun rv D1 hp => ?_)
      obtain ⟨rfl, hD⟩ := hp
      obtain rfl := hD.symm
      refine EV.if_ge (tgt := 28) d_Fo_countLess_22 (by decide) (fun h22 => ?_) (fun h22 => ?_)
      · rw [if_neg (Int32.not_lt.mpr h22)] at K
        refine EV.iincN d_Fo_countLess_28 rfl (by decide) ?_
        refine EV.goto (tgt := 4) d_Fo_countLess_31 (by decide) ?_
        exact K
      · rw [if_pos (Int32.not_le.mp h22)] at K
        refine EV.iincN d_Fo_countLess_25 rfl (by decide) ?_
        refine EV.iincN d_Fo_countLess_28 rfl (by decide) ?_
        refine EV.goto (tgt := 4) d_Fo_countLess_31 (by decide) ?_
        exact K
set_option maxHeartbeats 4000000 in
set_option maxRecDepth 100000 in
theorem sp_Fo_countLess {G : mx_G} {d : Nat} {S : List mx_Sh} {D : mx_Mem} {f k : Nat} {ks : List (List Nat)} {y : List Nat} (hF : ShF S f) (hK : ShK S k) (hc : D f 3 = nI ks.length) (hl : ks.length ≤ 10) (hKS : KS D f ks) (hY : LN D k y) (hy : y.length ≤ 52) (hyw : ∀ w ∈ y, w < 2 ^ 31) : EV G (d + 2) m_Fo_countLess 0 (mx_lc0 m_Fo_countLess [.ref f, .ref k]) [] S D S (RI (nI (ps_cl ks y)) D) := by
  show EV _ _ _ _ [some (.ref f), some (.ref k), none, none] [] _ _ _ _
  refine EV.iconst (v := nI 0) d_Fo_countLess_0 (by decide) ?_
  refine EV.istore_n d_Fo_countLess_1 (by decide) ?_
  refine EV.iconst (v := nI 0) d_Fo_countLess_2 (by decide) ?_
  refine EV.istore_n d_Fo_countLess_3 (by decide) ?_
  exact lp_Fo_countLess hF hK hc hl hKS hY hy hyw ks.length 0 (by omega) rfl
set_option maxHeartbeats 4000000 in
set_option maxRecDepth 100000 in
theorem lp_Fo_placeOf {G : mx_G} {d : Nat} {S : List mx_Sh} {D : mx_Mem} {f u a : Nat} {ks : List (List Nat)} {y : List Nat} (hF : ShF S f) (hl : ks.length ≤ 10) (hKS : KS D f ks) (hu : ks[u]? = some y) : ∀ n i : Nat, i ≤ u → u - i = n → EV G (d + 3) m_Fo_placeOf 13 [some (.ref f), some (.int (nI u)), some (.int (nI (a + ps_eqc (ks.take i) y))), some (.int (nI i))] [] S D S (RI (nI (a + ps_eqc (ks.take u) y)) D) := by
  obtain ⟨hf0, hf1, hf2, hf3, hf4⟩ := id hF
  have hul : u < ks.length := (List.getElem?_eq_some_iff.mp hu).1
  intro n
  induction n with
  | zero =>
    intro i h1 h2
    refine EV.iload_n d_Fo_placeOf_13 rfl ?_
    refine EV.iload_n d_Fo_placeOf_14 rfl ?_
    refine EV.icmp_geN (tgt := 45) d_Fo_placeOf_15 (by decide) rfl rfl (by omega) (by omega) (fun h15 => ?_) (fun h15 => ?_)
    · refine EV.iload_n d_Fo_placeOf_45 rfl ?_
      exact EV.ireturn d_Fo_placeOf_46 ⟨_, rfl, rfl⟩ ⟨by rw [show i = u by omega], rfl⟩
    · exfalso
      omega
  | succ n ih =>
    intro i h1 h2
    obtain ⟨x, hx⟩ : ∃ x, ks[i]? = some x := ⟨ks[i]'(by omega), List.getElem?_eq_getElem (by omega)⟩
    have htk : ps_eqc (ks.take (i + 1)) y = ps_eqc (ks.take i) y + if ps_cmp x y = 0 then 1 else 0 := by rw [List.take_add_one, hx]; exact ps_eqc_snoc _ _ _
    have K := ih (i + 1) (by omega) (by omega)
    rw [htk, ← Nat.add_assoc] at K
    obtain ⟨k1, k2, k3⟩ := hKS i x hx
    obtain ⟨k4, k5, k6⟩ := hKS u y hu
    have hsh := (hf4 i (by omega)).2
    obtain ⟨hsh0, hsh1⟩ := id hsh
    have hsu := (hf4 u (by omega)).2
    refine EV.iload_n d_Fo_placeOf_13 rfl ?_
    refine EV.iload_n d_Fo_placeOf_14 rfl ?_
    refine EV.icmp_geN (tgt := 45) d_Fo_placeOf_15 (by decide) rfl rfl (by omega) (by omega) (fun h15 => ?_) (fun h15 => ?_)
    · exfalso
      omega
    · refine EV.aload_n d_Fo_placeOf_18 rfl ?_
      refine EV.getR fl_Fo_23 d_Fo_placeOf_19 (by first | assumption | rfl) rfl ?_
      refine EV.iload_n d_Fo_placeOf_22 rfl ?_
      refine EV.aaldN d_Fo_placeOf_23 (by first | assumption | rfl) rfl rfl rfl (by omega) (ShF_k (by omega)) ?_
      refine EV.aload_n d_Fo_placeOf_24 rfl ?_
      refine EV.getR fl_Fo_23 d_Fo_placeOf_25 (by first | assumption | rfl) rfl ?_
      refine EV.iload_n d_Fo_placeOf_28 rfl ?_
      refine EV.aaldN d_Fo_placeOf_29 (by first | assumption | rfl) rfl rfl rfl (by omega) (ShF_k (by omega)) ?_
      refine EV.V1 cv_Fo_53 d_Fo_placeOf_30 (by first | assumption | rfl) (EV.deep (d2 := d + 1) (by omega) (sp_Ke_against hsh hsu k1 k4 k2 k5 k3 k6)) ⟨Nat.le_refl _, Nat.le_refl _⟩ rfl rfl (Nat.le_of_ble_eq_true rfl) (fun rv D1 hp => ?_)
      obtain ⟨rfl, hD⟩ := hp
      obtain rfl := hD.symm
      refine EV.if_ne (tgt := 39) d_Fo_placeOf_33 (by decide) (fun h33 => ?_) (fun h33 => ?_)
      · rw [if_neg h33] at K
        refine EV.iincN d_Fo_placeOf_39 rfl (by decide) ?_
        refine EV.goto (tgt := 13) d_Fo_placeOf_42 (by decide) ?_
        exact K
      · rw [if_pos h33] at K
        refine EV.iincN d_Fo_placeOf_36 rfl (by decide) ?_
        refine EV.iincN d_Fo_placeOf_39 rfl (by decide) ?_
        refine EV.goto (tgt := 13) d_Fo_placeOf_42 (by decide) ?_
        exact K
set_option maxHeartbeats 4000000 in
set_option maxRecDepth 100000 in
theorem sp_Fo_placeOf {G : mx_G} {d : Nat} {S : List mx_Sh} {D : mx_Mem} {f u : Nat} {ks : List (List Nat)} (hF : ShF S f) (hc : D f 3 = nI ks.length) (hl : ks.length ≤ 10) (hKS : KS D f ks) (hu : u < ks.length) : EV G (d + 3) m_Fo_placeOf 0 (mx_lc0 m_Fo_placeOf [.ref f, .int (nI u)]) [] S D S (RI (nI (ps_plc ks u)) D) := by
  obtain ⟨hf0, hf1, hf2, hf3, hf4⟩ := id hF
  obtain ⟨y, hy0⟩ : ∃ y, ks[u]? = some y := ⟨ks[u], List.getElem?_eq_getElem hu⟩
  have hgy : ks.getD u [] = y := by simp [hy0]
  have hu2 : ks[u]? = some (ks.getD u []) := by rw [hgy]; exact hy0
  obtain ⟨k4, k5, k6⟩ := hKS u _ hu2
  have hsu := (hf4 u (by omega)).2
  show EV _ _ _ _ [some (.ref f), some (.int (nI u)), none, none] [] _ _ _ _
  refine EV.aload_n d_Fo_placeOf_0 rfl ?_
  refine EV.aload_n d_Fo_placeOf_1 rfl ?_
  refine EV.getR fl_Fo_23 d_Fo_placeOf_2 (by first | assumption | rfl) rfl ?_
  refine EV.iload_n d_Fo_placeOf_5 rfl ?_
  refine EV.aaldN d_Fo_placeOf_6 (by first | assumption | rfl) rfl rfl rfl (by omega) (ShF_k (by omega)) ?_
  refine EV.V1 cv_Fo_49 d_Fo_placeOf_7 (by first | assumption | rfl) (sp_Fo_countLess hF hsu hc hl hKS k4 k5 k6) ⟨Nat.le_refl _, Nat.le_refl _⟩ rfl rfl (Nat.le_of_ble_eq_true rfl) (fun rv D1 hp => ?_)
  obtain ⟨rfl, hD⟩ := hp
  obtain rfl := hD.symm
  refine EV.istore_n d_Fo_placeOf_10 (by decide) ?_
  refine EV.iconst (v := nI 0) d_Fo_placeOf_11 (by decide) ?_
  refine EV.istore_n d_Fo_placeOf_12 (by decide) ?_
  have K := lp_Fo_placeOf (G := G) (d := d) (a := ps_cl ks (ks.getD u [])) hF hl hKS hu2 u 0 (by omega) rfl
  have e0 : ps_eqc (ks.take 0) (ks.getD u []) = 0 := by simp [ps_eqc]
  rw [e0, Nat.add_zero] at K
  exact K
set_option maxHeartbeats 4000000 in
set_option maxRecDepth 100000 in
theorem lp_Fo_numberAt {G : mx_G} {d : Nat} {S : List mx_Sh} {D : mx_Mem} {f : Nat} {fl : ps_F} {ks : List (List Nat)} {x : Int32} (hF : ShF S f) (hFO : FO D f fl) (hkl : ks.length = fl.length) (hl : fl.length ≤ 10) (hKS : KS D f ks) : ∀ n i : Nat, i ≤ fl.length → fl.length - i = n → (∀ j, j < i → ¬ nI (ps_plc ks j) = x) → EV G (d + 4) m_Fo_numberAt 2 [some (.ref f), some (.int x), some (.int (nI i))] [] S D S (fun rv D' => D' = D ∧ ∃ r, rv = some (.int r) ∧ NumP fl ks x r) := by
  obtain ⟨hf0, hf1, hf2, hf3, hf4⟩ := id hF
  have hc := hFO.1
  intro n
  induction n with
  | zero =>
    intro i h1 h2 h3
    refine EV.iload_n d_Fo_numberAt_2 rfl ?_
    refine EV.aload_n d_Fo_numberAt_3 rfl ?_
    refine EV.getI fl_Fo_31 d_Fo_numberAt_4 (by first | assumption | rfl) rfl ?_
    refine EV.icmp_geN (tgt := 32) d_Fo_numberAt_7 (by decide) rfl hc (by omega) (by omega) (fun h7 => ?_) (fun h7 => ?_)
    · refine EV.iconst (v := (-1)) d_Fo_numberAt_32 (by decide) ?_
      exact EV.ireturn d_Fo_numberAt_33 ⟨_, rfl, rfl⟩ ⟨rfl, _, rfl, Or.inr ⟨fun j hj => h3 j (by omega), rfl⟩⟩
    · exfalso
      omega
  | succ n ih =>
    intro i h1 h2 h3
    obtain ⟨e, he⟩ : ∃ e, fl[i]? = some e := ⟨fl[i]'(by omega), List.getElem?_eq_getElem (by omega)⟩
    refine EV.iload_n d_Fo_numberAt_2 rfl ?_
    refine EV.aload_n d_Fo_numberAt_3 rfl ?_
    refine EV.getI fl_Fo_31 d_Fo_numberAt_4 (by first | assumption | rfl) rfl ?_
    refine EV.icmp_geN (tgt := 32) d_Fo_numberAt_7 (by decide) rfl hc (by omega) (by omega) (fun h7 => ?_) (fun h7 => ?_)
    · exfalso
      omega
    · refine EV.aload_n d_Fo_numberAt_10 rfl ?_
      refine EV.iload_n d_Fo_numberAt_11 rfl ?_
      refine EV.V1 cv_Fo_45 d_Fo_numberAt_12 (by first | assumption | rfl) (sp_Fo_placeOf hF (by rw [hkl]; exact hc) (by omega) hKS (by omega)) ⟨Nat.le_refl _, Nat.le_refl _⟩ rfl rfl (Nat.le_of_ble_eq_true rfl) (fun rv D1 hp => ?_)
      obtain ⟨rfl, hD⟩ := hp
      obtain rfl := hD.symm
      refine EV.iload_n d_Fo_numberAt_15 rfl ?_
      refine EV.icmp_ne (tgt := 26) d_Fo_numberAt_16 (by decide) (fun h16 => ?_) (fun h16 => ?_)
      · refine EV.iincN d_Fo_numberAt_26 rfl (by decide) ?_
        refine EV.goto (tgt := 2) d_Fo_numberAt_29 (by decide) ?_
        exact ih (i + 1) (by omega) (by omega) (fun j hj => by
          rcases Nat.lt_or_ge j i with q | q
          · exact h3 j q
          · rw [show j = i by omega]; exact h16)
      · refine EV.aload_n d_Fo_numberAt_19 rfl ?_
        refine EV.getR fl_Fo_17 d_Fo_numberAt_20 (by first | assumption | rfl) rfl ?_
        refine EV.iload_n d_Fo_numberAt_23 rfl ?_
        refine EV.ialdN d_Fo_numberAt_24 (by first | assumption | rfl) rfl rfl (by omega) (by first | decide | omega) ?_
        refine EV.top (hFO.2.1 i e he).1 ?_
        exact EV.ireturn d_Fo_numberAt_25 ⟨_, rfl, rfl⟩ ⟨rfl, _, rfl, Or.inl ⟨i, e, he, h16, h3, rfl⟩⟩
set_option maxHeartbeats 4000000 in
set_option maxRecDepth 100000 in
theorem sp_Fo_numberAt {G : mx_G} {d : Nat} {S : List mx_Sh} {D : mx_Mem} {f : Nat} {fl : ps_F} {ks : List (List Nat)} {x : Int32} (hF : ShF S f) (hFO : FO D f fl) (hkl : ks.length = fl.length) (hl : fl.length ≤ 10) (hKS : KS D f ks) : EV G (d + 4) m_Fo_numberAt 0 (mx_lc0 m_Fo_numberAt [.ref f, .int x]) [] S D S (fun rv D' => D' = D ∧ ∃ r, rv = some (.int r) ∧ NumP fl ks x r) := by
  show EV _ _ _ _ [some (.ref f), some (.int x), none] [] _ _ _ _
  refine EV.iconst (v := nI 0) d_Fo_numberAt_0 (by decide) ?_
  refine EV.istore_n d_Fo_numberAt_1 (by decide) ?_
  exact lp_Fo_numberAt hF hFO hkl hl hKS fl.length 0 (by omega) rfl (fun j hj => absurd hj (by omega))
