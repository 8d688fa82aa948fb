theorem ps_row_len (bw : Bool) (es : List ps_E) (k : Nat) : (ps_row bw es k).length ≤ es.length + 1 := by
  unfold ps_row
  rw [List.length_append, List.length_singleton]
  have := List.length_filter_le (fun w => decide (w ≠ 0)) ((if (bw && decide (k = 1)) = true then es.reverse else es).map (fun e => ps_lv e k))
  rw [List.length_map] at this
  have h2 : (if (bw && decide (k = 1)) = true then es.reverse else es).length = es.length := by split <;> simp
  omega
theorem ps_key_len (bw : Bool) (es : List ps_E) : ∀ n, (ps_key bw es n).length ≤ n * (es.length + 1) := by
  intro n
  induction n with
  | zero => simp [ps_key]
  | succ n ih =>
    have := ps_row_len bw es n
    rw [ps_key, List.length_append, Nat.succ_mul]
    omega
/-- a text's key -/
def ps_kt (tb : ps_T) (sh bw : Bool) (str : Nat) (xs : List Nat) : List Nat := ps_key bw (ps_els tb sh xs.length false (ps_arr xs)) str
theorem ps_els_len (tb : ps_T) (sh : Bool) : ∀ (n : Nat) (v : Bool) (l : List Nat), (∀ c ∈ l, ps_mark c = false → 1 ≤ (ps_first tb (c :: [])).length) → True := fun _ _ _ _ => trivial
set_option maxHeartbeats 4000000 in
set_option maxRecDepth 100000 in
theorem lp_Km_findElements {G : mx_G} {d : Nat} {S : List mx_Sh} {D0 : mx_Mem} {m t : Nat} {tb : ps_T} {sh : Bool} {l : List Nat} {E : List ps_E} (hM : ShM S m t) (hT : ShT S t) (hmt : t + 5 < m ∨ m + 7 < t) (hB : TBw D0 t tb) (hok : ps_ok tb) (har : ar (D0 (m + 1)) l) (hln : D0 m 4 = nI l.length) (hl : l.length ≤ 12) (hch : ∀ c ∈ l, 0 < c ∧ c < 128) (hsg : ∀ c ∈ l, ps_mark c = false → ps_has tb [c]) (hsh : D0 m 8 = bI sh) : ∀ (n a u : Nat) (v : Bool) (es : List ps_E) (D : mx_Mem), a ≤ l.length → u ≤ a → l.length - a ≤ n → FrT m D0 D → (∀ j, ¬ j = 5 → ¬ j = 6 → D m j = D0 m j) → D m 6 = bI v → WE D m es → es.length ≤ a → es ++ ps_els tb sh n v (l.drop a) = E → EV G (d + 4) m_Km_findElements 14 [some (.ref m), some (.int (nI a)), some (.int (nI u))] [] S D S (fun rv D' => rv = none ∧ FrT m D0 D' ∧ (∀ j, ¬ j = 5 → ¬ j = 6 → D' m j = D0 m j) ∧ WE D' m E ∧ E.length ≤ 12) := by
  obtain ⟨hm0, hm1, hm2, hm3, hm4, hm5, hm6, hm7⟩ := id hM
  obtain ⟨hs0, hs1, hs2, hs3, hs4, hs5⟩ := id hT
  intro n
  induction n with
  | zero =>
    intro a u v es D h1 h2 h3 hF hJ hv hE hcap hEE
    have hln2 : D m 4 = nI l.length := by rw [hJ 4 (by decide) (by decide)]; exact hln
    simp only [ps_els, List.append_nil] at hEE
    subst hEE
    refine EV.iload_n d_Km_findElements_14 rfl ?_
    refine EV.aload_n d_Km_findElements_15 rfl ?_
    refine EV.getI fl_Km_57 d_Km_findElements_16 (by first | assumption | rfl) rfl ?_
    refine EV.icmp_geN (tgt := 70) d_Km_findElements_19 (by decide) rfl hln2 (by omega) (by omega) (fun h19 => ?_) (fun h19 => ?_)
    · exact EV.return_ d_Km_findElements_70 rfl ⟨rfl, hF, hJ, hE, by omega⟩
    · refine EV.iload_n d_Km_findElements_22 rfl ?_
      refine EV.aload_n d_Km_findElements_23 rfl ?_
      refine EV.getI fl_Km_57 d_Km_findElements_24 (by first | assumption | rfl) rfl ?_
      refine EV.icmp_geN (tgt := 70) d_Km_findElements_27 (by decide) rfl hln2 (by omega) (by omega) (fun h27 => ?_) (fun h27 => ?_)
      · exact EV.return_ d_Km_findElements_70 rfl ⟨rfl, hF, hJ, hE, by omega⟩
      · exfalso
        omega
  | succ n ih =>
    intro a u v es D h1 h2 h3 hF hJ hv hE hcap hEE
    have hln2 : D m 4 = nI l.length := by rw [hJ 4 (by decide) (by decide)]; exact hln
    refine EV.iload_n d_Km_findElements_14 rfl ?_
    refine EV.aload_n d_Km_findElements_15 rfl ?_
    refine EV.getI fl_Km_57 d_Km_findElements_16 (by first | assumption | rfl) rfl ?_
    refine EV.icmp_geN (tgt := 70) d_Km_findElements_19 (by decide) rfl hln2 (by omega) (by omega) (fun h19 => ?_) (fun h19 => ?_)
    · have e0 : l.drop a = [] := List.drop_of_length_le (by omega)
      rw [e0] at hEE
      simp only [ps_els, List.append_nil] at hEE
      subst hEE
      exact EV.return_ d_Km_findElements_70 rfl ⟨rfl, hF, hJ, hE, by omega⟩
    · refine EV.iload_n d_Km_findElements_22 rfl ?_
      refine EV.aload_n d_Km_findElements_23 rfl ?_
      refine EV.getI fl_Km_57 d_Km_findElements_24 (by first | assumption | rfl) rfl ?_
      refine EV.icmp_geN (tgt := 70) d_Km_findElements_27 (by decide) rfl hln2 (by omega) (by omega) (fun h27 => ?_) (fun h27 => ?_)
      · have e0 : l.drop a = [] := List.drop_of_length_le (by omega)
        rw [e0] at hEE
        simp only [ps_els, List.append_nil] at hEE
        subst hEE
        exact EV.return_ d_Km_findElements_70 rfl ⟨rfl, hF, hJ, hE, by omega⟩
      · obtain ⟨c, hc⟩ : ∃ c, l[a]? = some c := ⟨l[a]'(by omega), List.getElem?_eq_getElem (by omega)⟩
        have hcc := hch c (List.mem_of_getElem? hc)
        have hcv : D (m + 1) a = nI c := by rw [hF (m + 1) (by omega) (by omega) (by omega) (by omega) (by omega) (by omega)]; exact har a c hc
        have hdr : l.drop a = c :: l.drop (a + 1) := by rw [List.drop_eq_getElem_cons (by omega), (List.getElem?_eq_some_iff.mp hc).2]
        have hB2 : TBw D t tb := TBw_kept hB (fun j hj => hF (t + j) (by omega) (by omega) (by omega) (by omega) (by omega) (by omega))
        have hsh2 : D m 8 = bI sh := by rw [hJ 8 (by decide) (by decide)]; exact hsh
        refine EV.aload_n d_Km_findElements_30 rfl ?_
        refine EV.getR fl_Km_15 d_Km_findElements_31 (by first | assumption | rfl) rfl ?_
        refine EV.iload_n d_Km_findElements_34 rfl ?_
        refine EV.caldN d_Km_findElements_35 (by first | assumption | rfl) rfl rfl (by omega) (by first | decide | omega) ?_
        refine EV.top hcv ?_
        refine EV.T1 cs_Km_65 d_Km_findElements_36 (sp_To_isMark (by omega)) ⟨Nat.le_refl _, Nat.le_refl _⟩ rfl rfl (Nat.le_of_ble_eq_true rfl) (fun rv D1 hp => ?_)
        obtain ⟨rfl, hD⟩ := hp
        obtain rfl := hD.symm
        refine EV.if_eqB (tgt := 58) d_Km_findElements_39 (by decide) (fun h39 => ?_) (fun h39 => ?_)
        · obtain ⟨A, hA⟩ : ∃ A, ps_abs tb (ps_first tb (l.drop a)) [] (l.drop (a + (ps_first tb (l.drop a)).length)) = A := ⟨_, rfl⟩
          refine EV.aload_n d_Km_findElements_58 rfl ?_
          refine EV.iload_n d_Km_findElements_59 rfl ?_
          refine EV.V1 cv_Km_83 d_Km_findElements_60 (by first | assumption | rfl) (sp_Km_takeEntry (sh := sh) (es := es) hM hT hmt hB2 hok (by rw [hF (m + 1) (by omega) (by omega) (by omega) (by omega) (by omega) (by omega)]; exact har) hln2 hl hch hE hsh2 hc (hsg c (List.mem_of_getElem? hc) h39) (by omega) hA) ⟨Nat.le_refl _, Nat.le_refl _⟩ rfl rfl (Nat.le_of_ble_eq_true rfl) (fun rv D1 hp => ?_)
          obtain ⟨p, rfl, hp1, hp2, hdp, q1, q2, q3, q4, hp3⟩ := hp
          refine EV.istore_n d_Km_findElements_63 (by decide) ?_
          refine EV.iincN d_Km_findElements_64 rfl (by decide) ?_
          refine EV.goto (tgt := 14) d_Km_findElements_67 (by decide) ?_
          refine ih p (u + 1) (ps_isv A.1) _ D1 hp2 (by omega) (by omega) (fun k k0 k2 k4 k5 k6 k7 => (q1 k k0 k2 k4 k5 k6 k7).trans (hF k k0 k2 k4 k5 k6 k7)) (fun j j5 j6 => (q2 j j5 j6).trans (hJ j j5 j6)) q3 q4 (by have := el_ms_len sh (ps_isv A.1) A.2.1; rw [List.length_append, List.length_cons]; omega) ?_
          rw [← hEE, hdr]
          simp only [ps_els]
          rw [if_neg (by simp [h39]), ← hdr, List.drop_drop, hA, hdp]
          simp
        · refine EV.aload_n d_Km_findElements_42 rfl ?_
          refine EV.aload_n d_Km_findElements_43 rfl ?_
          refine EV.getR fl_Km_15 d_Km_findElements_44 (by first | assumption | rfl) rfl ?_
          refine EV.iload_n d_Km_findElements_47 rfl ?_
          refine EV.caldN d_Km_findElements_48 (by first | assumption | rfl) rfl rfl (by omega) (by first | decide | omega) ?_
          refine EV.top hcv ?_
          refine EV.V1 cv_Km_79 d_Km_findElements_49 (by first | assumption | rfl) (sp_Km_addMark (sh := sh) (v := v) hM hE (by omega) hsh2 hv (by have := ps_mark_c h39; omega)) ⟨Nat.le_refl _, Nat.le_refl _⟩ rfl rfl (Nat.le_of_ble_eq_true rfl) (fun rv D1 hp => ?_)
          obtain ⟨rfl, q1, q2, q3⟩ := hp
          refine EV.iincN d_Km_findElements_52 rfl (by decide) ?_
          refine EV.goto (tgt := 64) d_Km_findElements_55 (by decide) ?_
          refine EV.iincN d_Km_findElements_64 rfl (by decide) ?_
          refine EV.goto (tgt := 14) d_Km_findElements_67 (by decide) ?_
          refine ih (a + 1) (u + 1) v (es ++ el_ms sh v [c]) D1 (by omega) (by omega) (by omega) (fun k k0 k2 k4 k5 k6 k7 => (q1 k k0 k4 k5 k6 k7).trans (hF k k0 k2 k4 k5 k6 k7)) (fun j j5 j6 => (q2 j j5).trans (hJ j j5 j6)) ((q2 6 (by decide)).trans hv) q3 (by have := el_ms_len sh v [c]; rw [List.length_append]; simp at this; omega) ?_
          rw [← hEE, hdr]
          simp only [ps_els]
          rw [if_pos h39, List.append_assoc]
set_option maxHeartbeats 4000000 in
set_option maxRecDepth 100000 in
theorem sp_Km_findElements {G : mx_G} {d : Nat} {S : List mx_Sh} {D0 : mx_Mem} {m t : Nat} {tb : ps_T} {sh : Bool} {l : List Nat} (hM : ShM S m t) (hT : ShT S t) (hmt : t + 5 < m ∨ m + 7 < t) (hB : TBw D0 t tb) (hok : ps_ok tb) (har : ar (D0 (m + 1)) l) (hln : D0 m 4 = nI l.length) (hl : l.length ≤ 12) (hch : ∀ c ∈ l, 0 < c ∧ c < 128) (hsg : ∀ c ∈ l, ps_mark c = false → ps_has tb [c]) (hsh : D0 m 8 = bI sh) : EV G (d + 4) m_Km_findElements 0 (mx_lc0 m_Km_findElements [.ref m]) [] S D0 S (fun rv D' => rv = none ∧ FrT m D0 D' ∧ (∀ j, ¬ j = 5 → ¬ j = 6 → D' m j = D0 m j) ∧ WE D' m (ps_els tb sh l.length false l) ∧ (ps_els tb sh l.length false l).length ≤ 12) := by
  obtain ⟨hm0, hm1, hm2, hm3, hm4, hm5, hm6, hm7⟩ := id hM
  obtain ⟨hs0, hs1, hs2, hs3, hs4, hs5⟩ := id hT
  show EV _ _ _ _ [some (.ref m), none, none] [] _ _ _ _
  refine EV.aload_n d_Km_findElements_0 rfl ?_
  refine EV.iconst (v := nI 0) d_Km_findElements_1 (by decide) ?_
  refine EV.putI fl_Km_73 d_Km_findElements_2 (by first | assumption | rfl) rfl rfl rfl ?_
  refine EV.aload_n d_Km_findElements_5 rfl ?_
  refine EV.iconst (v := nI 0) d_Km_findElements_6 (by decide) ?_
  refine EV.putI fl_Km_76 d_Km_findElements_7 (by first | assumption | rfl) rfl (by decide) (by decide) ?_
  refine EV.iconst (v := nI 0) d_Km_findElements_10 (by decide) ?_
  refine EV.istore_n d_Km_findElements_11 (by decide) ?_
  refine EV.iconst (v := nI 0) d_Km_findElements_12 (by decide) ?_
  refine EV.istore_n d_Km_findElements_13 (by decide) ?_
  refine EV.post (fun rv D' h => ⟨h.1, fun k k0 k2 k4 k5 k6 k7 => (h.2.1 k k0 k2 k4 k5 k6 k7).trans (by simp [mx_w, va_up, k0]), fun j j5 j6 => (h.2.2.1 j j5 j6).trans (by simp [mx_w, va_up, upd, j5, j6]), h.2.2.2⟩) (lp_Km_findElements (tb := tb) (sh := sh) (l := l) (E := ps_els tb sh l.length false l) hM hT hmt (TBw_kept hB (fun j hj => by simp [mx_w, va_up, show ¬ t + j = m by omega])) hok (by simp [mx_w, va_up]; exact har) (by simp [mx_w, va_up, upd]; exact hln) hl hch hsg (by simp [mx_w, va_up, upd]; exact hsh) l.length 0 0 false [] _ (by omega) (by omega) (by omega) (fun _ _ _ _ _ _ _ => rfl) (fun _ _ _ => rfl) (by simp [mx_w, va_up, upd]; rfl) ⟨by simp [mx_w, va_up, upd], fun i e he => by simp at he⟩ (by simp) (by simp))
theorem ShM_row {S : List mx_Sh} {m t lv : Nat} (h : ShM S m t) (hl : lv < 4) : ([some (m + 4), some (m + 5), some (m + 6), some (m + 7)] : List (Option Nat))[lv]? = some (some (m + 4 + lv)) ∧ S[m + 4 + lv]? = some (.inr (.inl (0, 12))) := by
  obtain ⟨hm0, hm1, hm2, hm3, hm4, hm5, hm6, hm7⟩ := h
  match lv, hl with
  | 0, _ => exact ⟨rfl, hm4⟩
  | 1, _ => exact ⟨rfl, hm5⟩
  | 2, _ => exact ⟨rfl, hm6⟩
  | 3, _ => exact ⟨rfl, hm7⟩
theorem WE_row {D : mx_Mem} {m lv i : Nat} {es : List ps_E} {e : ps_E} (h : WE D m es) (hl : lv < 4) (he : es[i]? = some e) : D (m + 4 + lv) i = nI (ps_lv e lv) := by
  obtain ⟨h1, h2, h3, h4⟩ := h.2 i e he
  match lv, hl with
  | 0, _ => exact h1
  | 1, _ => exact h2
  | 2, _ => exact h3
  | 3, _ => exact h4
def ps_zs (lf : Bool) (es : List ps_E) : List ps_E := if lf = true then es.reverse else es
theorem ps_zs_at {lf : Bool} {es : List ps_E} {i : Nat} (hi : i < es.length) : (ps_zs lf es)[i]? = es[if lf = true then es.length - 1 - i else i]? := by
  unfold ps_zs
  cases lf
  · rfl
  · simp only [if_true]
    rw [List.getElem?_reverse hi]
theorem ps_zs_len (lf : Bool) (es : List ps_E) : (ps_zs lf es).length = es.length := by unfold ps_zs; split <;> simp
set_option maxHeartbeats 4000000 in
set_option maxRecDepth 100000 in
theorem lp_Km_writeLevel {G : mx_G} {d : Nat} {S : List mx_Sh} {D0 : mx_Mem} {m t k lv : Nat} {lf : Bool} {es : List ps_E} {ys : List Nat} (hM : ShM S m t) (hK : ShK S k) (hmk : k + 1 < m ∨ m + 7 < k) (hE : WE D0 m es) (hel : es.length ≤ 12) (hlv : lv < 4) (hw : ∀ e ∈ es, ps_lv e lv < 2 ^ 31) (hcap : ys.length + es.length + 1 ≤ 52) : ∀ (n i : Nat) (D : mx_Mem) (v5 : Option Value), i ≤ es.length → es.length - i = n → (∀ q, ¬ q = k → ¬ q = k + 1 → D q = D0 q) → LN D k (ys ++ (((ps_zs lf es).take i).map (fun e => ps_lv e lv)).filter (fun w => decide (w ≠ 0))) → EV G (d + 1) m_Km_writeLevel 21 [some (.ref m), some (.int (nI lv)), some (.ref k), some (.int (bI lf)), some (.int (nI i)), v5] [] S D S (fun rv D' => rv = none ∧ (∀ q, ¬ q = k → ¬ q = k + 1 → D' q = D0 q) ∧ LN D' k (ys ++ (((ps_zs lf es).map (fun e => ps_lv e lv)).filter (fun w => decide (w ≠ 0)) ++ [0]))) := by
  obtain ⟨hm0, hm1, hm2, hm3, hm4, hm5, hm6, hm7⟩ := id hM
  obtain ⟨hk0, hk1⟩ := id hK
  obtain ⟨hrow1, hrow2⟩ := ShM_row hM hlv
  have hzl := ps_zs_len lf es
  intro n
  induction n with
  | zero =>
    intro i D v5 h1 h2 hF hL
    have hel2 : D m 5 = nI es.length := by rw [hF m (by omega) (by omega)]; exact hE.1
    have hfl := List.length_filter_le (fun w => decide (w ≠ 0)) (((ps_zs lf es).take i).map (fun e => ps_lv e lv))
    rw [List.length_map, List.length_take] at hfl
    refine EV.iload d_Km_writeLevel_21 rfl ?_
    refine EV.aload_n d_Km_writeLevel_23 rfl ?_
    refine EV.getI fl_Km_73 d_Km_writeLevel_24 (by first | assumption | rfl) rfl ?_
    refine EV.icmp_geN (tgt := 74) d_Km_writeLevel_27 (by decide) rfl hel2 (by omega) (by omega) (fun h27 => ?_) (fun h27 => ?_)
    · refine EV.aload_n d_Km_writeLevel_74 rfl ?_
      refine EV.iconst (v := nI 0) d_Km_writeLevel_75 (by decide) ?_
      refine EV.V1 cv_Km_136 d_Km_writeLevel_76 (by first | assumption | rfl) (sp_Ke_add (c := 0) hK hL (by rw [List.length_append]; omega)) ⟨Nat.le_refl _, Nat.le_refl _⟩ rfl rfl (Nat.le_of_ble_eq_true rfl) (fun rv D1 hp => ?_)
      obtain ⟨rfl, q1, q2⟩ := hp
      exact EV.return_ d_Km_writeLevel_79 rfl ⟨rfl, fun q a b => (q1 q a b).trans (hF q a b), by rw [List.take_of_length_le (by omega), List.append_assoc] at q2; exact q2⟩
    · exfalso
      omega
  | succ n ih =>
    intro i D v5 h1 h2 hF hL
    have hel2 : D m 5 = nI es.length := by rw [hF m (by omega) (by omega)]; exact hE.1
    have hfl := List.length_filter_le (fun w => decide (w ≠ 0)) (((ps_zs lf es).take i).map (fun e => ps_lv e lv))
    rw [List.length_map, List.length_take] at hfl
    obtain ⟨e, he⟩ : ∃ e, (ps_zs lf es)[i]? = some e := ⟨(ps_zs lf es)[i]'(by omega), List.getElem?_eq_getElem (by omega)⟩
    have he2 := he
    rw [ps_zs_at (by omega)] at he2
    have hwv : D (m + 4 + lv) (if lf = true then es.length - 1 - i else i) = nI (ps_lv e lv) := by rw [hF (m + 4 + lv) (by omega) (by omega)]; exact WE_row hE hlv he2
    have hwl := hw e (List.mem_of_getElem? he2)
    have hjl : (if lf = true then es.length - 1 - i else i) < 12 := by have := (List.getElem?_eq_some_iff.mp he2).1; omega
    have htk : ((ps_zs lf es).take (i + 1)).map (fun e => ps_lv e lv) = ((ps_zs lf es).take i).map (fun e => ps_lv e lv) ++ [ps_lv e lv] := by rw [List.take_add_one, he]; simp
    generalize hjj : (if lf = true then es.length - 1 - i else i) = jj at hwv hjl
    have K : EV G (d + 1) m_Km_writeLevel 54 [some (.ref m), some (.int (nI lv)), some (.ref k), some (.int (bI lf)), some (.int (nI i)), v5] [.int (nI jj), .ref (m + 4 + lv)] S D S (fun rv D' => rv = none ∧ (∀ q, ¬ q = k → ¬ q = k + 1 → D' q = D0 q) ∧ LN D' k (ys ++ (((ps_zs lf es).map (fun e => ps_lv e lv)).filter (fun w => decide (w ≠ 0)) ++ [0]))) := by
      refine EV.ialdN d_Km_writeLevel_54 (by first | assumption | rfl) rfl rfl (by omega) (by first | decide | omega) ?_
      refine EV.top hwv ?_
      refine EV.istore d_Km_writeLevel_55 (by decide) ?_
      refine EV.iload d_Km_writeLevel_57 rfl ?_
      refine EV.if_eqN (tgt := 68) d_Km_writeLevel_59 (by decide) rfl (by omega) (fun h59 => ?_) (fun h59 => ?_)
      · refine EV.iincN d_Km_writeLevel_68 rfl (by decide) ?_
        refine EV.goto (tgt := 21) d_Km_writeLevel_71 (by decide) ?_
        first
        | (refine ih (i + 1) D1 _ (by omega) (by omega) (fun q a b => (q1 q a b).trans (hF q a b)) ?_
           rw [htk, List.filter_append, ← List.append_assoc, List.filter_cons_of_pos (by simpa using h59)]
           exact q2)
        | (refine ih (i + 1) D _ (by omega) (by omega) hF ?_
           rw [htk, List.filter_append, ← List.append_assoc, List.filter_cons_of_neg (by simpa using h59)]
           simpa using hL)
      · refine EV.aload_n d_Km_writeLevel_62 rfl ?_
        refine EV.iload d_Km_writeLevel_63 rfl ?_
        refine EV.V1 cv_Km_136 d_Km_writeLevel_65 (by first | assumption | rfl) (sp_Ke_add hK hL (by rw [List.length_append]; omega)) ⟨Nat.le_refl _, Nat.le_refl _⟩ rfl rfl (Nat.le_of_ble_eq_true rfl) (fun rv D1 hp => ?_)
        obtain ⟨rfl, q1, q2⟩ := hp
        refine EV.iincN d_Km_writeLevel_68 rfl (by decide) ?_
        refine EV.goto (tgt := 21) d_Km_writeLevel_71 (by decide) ?_
        first
        | (refine ih (i + 1) D1 _ (by omega) (by omega) (fun q a b => (q1 q a b).trans (hF q a b)) ?_
           rw [htk, List.filter_append, ← List.append_assoc, List.filter_cons_of_pos (by simpa using h59)]
           exact q2)
        | (refine ih (i + 1) D _ (by omega) (by omega) hF ?_
           rw [htk, List.filter_append, ← List.append_assoc, List.filter_cons_of_neg (by simpa using h59)]
           simpa using hL)
    refine EV.iload d_Km_writeLevel_21 rfl ?_
    refine EV.aload_n d_Km_writeLevel_23 rfl ?_
    refine EV.getI fl_Km_73 d_Km_writeLevel_24 (by first | assumption | rfl) rfl ?_
    refine EV.icmp_geN (tgt := 74) d_Km_writeLevel_27 (by decide) rfl hel2 (by omega) (by omega) (fun h27 => ?_) (fun h27 => ?_)
    · exfalso
      omega
    · refine EV.aload_n d_Km_writeLevel_30 rfl ?_
      refine EV.getR fl_Km_24 d_Km_writeLevel_31 (by first | assumption | rfl) rfl ?_
      refine EV.iload_n d_Km_writeLevel_34 rfl ?_
      refine EV.aaldN d_Km_writeLevel_35 (by first | assumption | rfl) rfl rfl rfl (by omega) hrow1 ?_
      refine EV.iload_n d_Km_writeLevel_36 rfl ?_
      refine EV.if_eqB (tgt := 52) d_Km_writeLevel_37 (by decide) (fun h37 => ?_) (fun h37 => ?_)
      · rw [h37] at hjj
        have ej : i = jj := by simpa using hjj
        rw [← ej] at K
        refine EV.iload d_Km_writeLevel_52 rfl ?_
        exact K
      · rw [h37] at hjj
        have ej : es.length - 1 - i = jj := by simpa using hjj
        rw [← ej] at K
        refine EV.aload_n d_Km_writeLevel_40 rfl ?_
        refine EV.getI fl_Km_73 d_Km_writeLevel_41 (by first | assumption | rfl) rfl ?_
        refine EV.top hel2 ?_
        refine EV.iconst (v := nI 1) d_Km_writeLevel_44 (by decide) ?_
        refine EV.isub d_Km_writeLevel_45 ?_
        refine EV.iload d_Km_writeLevel_46 rfl ?_
        refine EV.isub d_Km_writeLevel_48 ?_
        refine EV.top (y := nI (es.length - 1 - i)) (by rw [pk_sub (by omega)]; exact pk_sub (by omega)) ?_
        refine EV.goto (tgt := 54) d_Km_writeLevel_49 (by decide) ?_
        exact K
set_option maxHeartbeats 4000000 in
set_option maxRecDepth 100000 in
theorem sp_Km_writeLevel {G : mx_G} {d : Nat} {S : List mx_Sh} {D0 : mx_Mem} {m t k lv : Nat} {bw : Bool} {es : List ps_E} {ys : List Nat} (hM : ShM S m t) (hK : ShK S k) (hmk : k + 1 < m ∨ m + 7 < k) (hE : WE D0 m es) (hel : es.length ≤ 12) (hlv : lv < 4) (hw : ∀ e ∈ es, ps_lv e lv < 2 ^ 31) (hcap : ys.length + es.length + 1 ≤ 52) (hbw : D0 m 9 = bI bw) (hL : LN D0 k ys) : EV G (d + 1) m_Km_writeLevel 0 (mx_lc0 m_Km_writeLevel [.ref m, .int (nI lv), .ref k]) [] S D0 S (fun rv D' => rv = none ∧ (∀ q, ¬ q = k → ¬ q = k + 1 → D' q = D0 q) ∧ LN D' k (ys ++ ps_row bw es lv)) := by
  obtain ⟨hm0, hm1, hm2, hm3, hm4, hm5, hm6, hm7⟩ := id hM
  obtain ⟨hk0, hk1⟩ := id hK
  show EV _ _ _ _ [some (.ref m), some (.int (nI lv)), some (.ref k), none, none, none] [] _ _ _ _
  refine EV.aload_n d_Km_writeLevel_0 rfl ?_
  refine EV.getI fl_Km_35 d_Km_writeLevel_1 (by first | assumption | rfl) rfl ?_
  refine EV.top hbw ?_
  refine EV.if_eqB (tgt := 16) d_Km_writeLevel_4 (by decide) (fun h4 => ?_) (fun h4 => ?_)
  · have elf : (bw && decide (lv = 1)) = false := by simp [h4]
    have K := lp_Km_writeLevel (G := G) (d := d) (lf := bw && decide (lv = 1)) (ys := ys) hM hK hmk hE hel hlv hw hcap es.length 0 D0 none (by omega) rfl (fun _ _ _ => rfl) (by simpa using hL)
    rw [bI_f elf] at K
    refine EV.iconst (v := nI 0) d_Km_writeLevel_16 (by decide) ?_
    refine EV.istore_n d_Km_writeLevel_17 (by decide) ?_
    refine EV.iconst (v := nI 0) d_Km_writeLevel_18 (by decide) ?_
    refine EV.istore d_Km_writeLevel_19 (by decide) ?_
    exact K
  refine EV.iload_n d_Km_writeLevel_7 rfl ?_
  refine EV.iconst (v := nI 1) d_Km_writeLevel_8 (by decide) ?_
  refine EV.icmp_neN (tgt := 16) d_Km_writeLevel_9 (by decide) rfl rfl (by omega) (by omega) (fun h9 => ?_) (fun h9 => ?_)
  · have elf : (bw && decide (lv = 1)) = false := by simp [h9]
    have K := lp_Km_writeLevel (G := G) (d := d) (lf := bw && decide (lv = 1)) (ys := ys) hM hK hmk hE hel hlv hw hcap es.length 0 D0 none (by omega) rfl (fun _ _ _ => rfl) (by simpa using hL)
    rw [bI_f elf] at K
    refine EV.iconst (v := nI 0) d_Km_writeLevel_16 (by decide) ?_
    refine EV.istore_n d_Km_writeLevel_17 (by decide) ?_
    refine EV.iconst (v := nI 0) d_Km_writeLevel_18 (by decide) ?_
    refine EV.istore d_Km_writeLevel_19 (by decide) ?_
    exact K
  · have elf : (bw && decide (lv = 1)) = true := by simp [h4, h9]
    have K := lp_Km_writeLevel (G := G) (d := d) (lf := bw && decide (lv = 1)) (ys := ys) hM hK hmk hE hel hlv hw hcap es.length 0 D0 none (by omega) rfl (fun _ _ _ => rfl) (by simpa using hL)
    rw [bI_t elf] at K
    refine EV.iconst (v := nI 1) d_Km_writeLevel_12 (by decide) ?_
    refine EV.goto (tgt := 17) d_Km_writeLevel_13 (by decide) ?_
    refine EV.istore_n d_Km_writeLevel_17 (by decide) ?_
    refine EV.iconst (v := nI 0) d_Km_writeLevel_18 (by decide) ?_
    refine EV.istore d_Km_writeLevel_19 (by decide) ?_
    exact K
