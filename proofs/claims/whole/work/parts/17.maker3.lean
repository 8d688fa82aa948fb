theorem el_ms_snoc (sh v : Bool) (ps : List Nat) (c : Nat) : el_ms sh v (ps ++ [c]) = el_ms sh v ps ++ el_ms sh v [c] := by
  unfold el_ms
  split <;> simp
theorem el_ms_len (sh v : Bool) (ps : List Nat) : (el_ms sh v ps).length ≤ ps.length := by
  unfold el_ms
  split <;> simp
/-- which cells the taking of an entry may change -/
def FrT (m : Nat) (D D' : mx_Mem) : Prop := ∀ k, ¬ k = m → ¬ k = m + 2 → ¬ k = m + 4 → ¬ k = m + 5 → ¬ k = m + 6 → ¬ k = m + 7 → D' k = D k
theorem TBw_kept {D D' : mx_Mem} {t : Nat} {tb : ps_T} (h : TBw D t tb) (hk : ∀ j, j ≤ 5 → D' (t + j) = D (t + j)) : TBw D' t tb := by
  have h0 := hk 0 (by omega)
  rw [Nat.add_zero] at h0
  refine ⟨by rw [h0]; exact h.1, ?_, ?_⟩
  · rw [hk 1 (by omega), hk 2 (by omega)]; exact h.2.1
  · rw [hk 3 (by omega), hk 4 (by omega), hk 5 (by omega)]; exact h.2.2
theorem WE_kept {D D' : mx_Mem} {m : Nat} {es : List ps_E} (h : WE D m es) (h0 : D' m 5 = D m 5) (hk : ∀ j, 4 ≤ j → j ≤ 7 → D' (m + j) = D (m + j)) : WE D' m es := by
  refine ⟨by rw [h0]; exact h.1, fun i e he => ?_⟩
  rw [hk 4 (by omega) (by omega), hk 5 (by omega) (by omega), hk 6 (by omega) (by omega), hk 7 (by omega) (by omega)]
  exact h.2 i e he
theorem ps_mark_c {c : Nat} (h : ps_mark c = true) : 49 ≤ c ∧ c ≤ 52 := by
  unfold ps_mark at h
  simpa using h
set_option maxHeartbeats 4000000 in
set_option maxRecDepth 100000 in
theorem lp_Km_takeEntry125 {G : mx_G} {d : Nat} {S : List mx_Sh} {D0 : mx_Mem} {m t p : Nat} {sh v : Bool} {es : List ps_E} {ps : List Nat} {v1 v2 : Option Value} (hM : ShM S m t) (hP : ar (D0 (m + 2)) ps) (hl : es.length + ps.length ≤ 12) (hps : ∀ x ∈ ps, ps_mark x = true) (hsh : D0 m 8 = bI sh) (hv : D0 m 6 = bI v) : ∀ (n i : Nat) (D : mx_Mem), i ≤ ps.length → ps.length - i = n → FrE m D0 D → (∀ j, ¬ j = 5 → D m j = D0 m j) → WE D m (es ++ el_ms sh v (ps.take i)) → EV G (d + 2) m_Km_takeEntry 125 [some (.ref m), v1, v2, some (.int (nI p)), some (.int (nI ps.length)), some (.int (nI i))] [] S D S (fun rv D' => rv = some (.int (nI p)) ∧ FrE m D0 D' ∧ (∀ j, ¬ j = 5 → D' m j = D0 m j) ∧ WE D' m (es ++ el_ms sh v ps)) := by
  obtain ⟨hm0, hm1, hm2, hm3, hm4, hm5, hm6, hm7⟩ := id hM
  intro n
  induction n with
  | zero =>
    intro i D h1 h2 hF hJ hE
    refine EV.iload d_Km_takeEntry_125 rfl ?_
    refine EV.iload d_Km_takeEntry_127 rfl ?_
    refine EV.icmp_geN (tgt := 149) d_Km_takeEntry_129 (by decide) rfl rfl (by omega) (by omega) (fun h129 => ?_) (fun h129 => ?_)
    · refine EV.iload_n d_Km_takeEntry_149 rfl ?_
      exact EV.ireturn d_Km_takeEntry_150 ⟨_, rfl, rfl⟩ ⟨rfl, hF, hJ, by rw [List.take_of_length_le (by omega)] at hE; exact hE⟩
    · exfalso
      omega
  | succ n ih =>
    intro i D h1 h2 hF hJ hE
    obtain ⟨c, hc⟩ : ∃ c, ps[i]? = some c := ⟨ps[i]'(by omega), List.getElem?_eq_getElem (by omega)⟩
    have hcm := ps_mark_c (hps c (List.mem_of_getElem? hc))
    have hcv : D (m + 2) i = nI c := by rw [hF (m + 2) (by omega) (by omega) (by omega) (by omega) (by omega)]; exact hP i c hc
    have hel := el_ms_len sh v (ps.take i)
    rw [List.length_take] at hel
    refine EV.iload d_Km_takeEntry_125 rfl ?_
    refine EV.iload d_Km_takeEntry_127 rfl ?_
    refine EV.icmp_geN (tgt := 149) d_Km_takeEntry_129 (by decide) rfl rfl (by omega) (by omega) (fun h129 => ?_) (fun h129 => ?_)
    · exfalso
      omega
    · refine EV.aload_n d_Km_takeEntry_132 rfl ?_
      refine EV.aload_n d_Km_takeEntry_133 rfl ?_
      refine EV.getR fl_Km_19 d_Km_takeEntry_134 (by first | assumption | rfl) rfl ?_
      refine EV.iload d_Km_takeEntry_137 rfl ?_
      refine EV.caldN d_Km_takeEntry_139 (by first | assumption | rfl) rfl rfl (by omega) (by first | decide | omega) ?_
      refine EV.top hcv ?_
      refine EV.V1 cv_Km_79 d_Km_takeEntry_140 (by first | assumption | rfl) (sp_Km_addMark (sh := sh) (v := v) hM hE (by rw [List.length_append]; omega) (by rw [hJ 8 (by decide)]; exact hsh) (by rw [hJ 6 (by decide)]; exact hv) (by omega)) ⟨Nat.le_refl _, Nat.le_refl _⟩ rfl rfl (Nat.le_of_ble_eq_true rfl) (fun rv D1 hp => ?_)
      obtain ⟨rfl, q1, q2, q3⟩ := hp
      refine EV.iincN d_Km_takeEntry_143 rfl (by decide) ?_
      refine EV.goto (tgt := 125) d_Km_takeEntry_146 (by decide) ?_
      refine ih (i + 1) D1 (by omega) (by omega) (fun k a b c d e => (q1 k a b c d e).trans (hF k a b c d e)) (fun j hj => (q2 j hj).trans (hJ j hj)) ?_
      rw [List.take_add_one, hc]
      show WE _ _ (es ++ el_ms sh v (ps.take i ++ [c]))
      rw [el_ms_snoc, ← List.append_assoc]
      exact q3
set_option maxHeartbeats 4000000 in
set_option maxRecDepth 100000 in
theorem lp_Km_takeEntry31 {G : mx_G} {d : Nat} {S : List mx_Sh} {D0 : mx_Mem} {m t a : Nat} {tb : ps_T} {l : List Nat} {A : List Nat × List Nat × List Nat} {Post : Option Value → mx_Mem → Prop} (hM : ShM S m t) (hT : ShT S t) (hmt : t + 5 < m ∨ m + 7 < t) (hB : TBw D0 t tb) (hok : ps_ok tb) (har : ar (D0 (m + 1)) l) (hln : D0 m 4 = nI l.length) (hl : l.length ≤ 12) (hch : ∀ c ∈ l, 0 < c ∧ c < 128)
    (K : ∀ (i p : Nat) (D : mx_Mem) (v5 : Option Value), (∀ k, ¬ k = m + 2 → D k = D0 k) → ps_idx tb A.1 = some i → ps_so A.1 → ar (D (m + 2)) A.2.1 → (∀ x ∈ A.2.1, ps_mark x = true) → l.drop p = A.2.2 → p ≤ l.length → A.2.1.length + 1 + a ≤ p → EV G (d + 3) m_Km_takeEntry 117 [some (.ref m), some (.int (nI a)), some (.int (nI i)), some (.int (nI p)), some (.int (nI A.2.1.length)), v5] [] S D S Post) :
    ∀ (q i p : Nat) (s ps : List Nat) (D : mx_Mem) (v5 : Option Value), p ≤ l.length → l.length - p = q → (∀ k, ¬ k = m + 2 → D k = D0 k) → ps_idx tb s = some i → ps_so s → ar (D (m + 2)) ps → (∀ x ∈ ps, ps_mark x = true) → ps.length + 1 + a ≤ p → ps_abs tb s ps (l.drop p) = A → EV G (d + 3) m_Km_takeEntry 31 [some (.ref m), some (.int (nI a)), some (.int (nI i)), some (.int (nI p)), some (.int (nI ps.length)), v5] [] S D S Post := by
  obtain ⟨hm0, hm1, hm2, hm3, hm4, hm5, hm6, hm7⟩ := id hM
  obtain ⟨hs0, hs1, hs2, hs3, hs4, hs5⟩ := id hT
  have hl30 := hok.2.1
  intro q
  induction q with
  | zero =>
    intro i p s ps D v5 h1 h2 hF hi hso hP hps hlen hA
    have hln2 : D m 4 = nI l.length := by rw [hF m (by omega)]; exact hln
    have e0 : l.drop p = [] := List.drop_of_length_le (by omega)
    rw [e0] at hA
    simp only [ps_abs] at hA
    subst hA
    refine EV.iload_n d_Km_takeEntry_31 rfl ?_
    refine EV.aload_n d_Km_takeEntry_32 rfl ?_
    refine EV.getI fl_Km_57 d_Km_takeEntry_33 (by first | assumption | rfl) rfl ?_
    refine EV.icmp_geN (tgt := 117) d_Km_takeEntry_36 (by decide) rfl hln2 (by omega) (by omega) (fun h36 => ?_) (fun h36 => ?_)
    · exact K i p D v5 hF hi hso hP hps e0 h1 hlen
    · exfalso
      omega
  | succ q ih =>
    intro i p s ps D v5 h1 h2 hF hi hso hP hps hlen hA
    have hln2 : D m 4 = nI l.length := by rw [hF m (by omega)]; exact hln
    obtain ⟨c, hc⟩ : ∃ c, l[p]? = some c := ⟨l[p]'(by omega), List.getElem?_eq_getElem (by omega)⟩
    have hcc := hch c (List.mem_of_getElem? hc)
    have hcv : D (m + 1) p = nI c := by rw [hF (m + 1) (by omega)]; exact har p c hc
    have hdr : l.drop p = c :: l.drop (p + 1) := by rw [List.drop_eq_getElem_cons (by omega), (List.getElem?_eq_some_iff.mp hc).2]
    have hil := ps_idx_lt hi
    have hB2 : TBw D t tb := TBw_kept hB (fun j hj => hF (t + j) (by omega))
    have hA0 := hA
    rw [hdr] at hA
    simp only [ps_abs] at hA
    -- the mark is passed over
    have KP : ps_mark c = true → ps_abs tb s (ps ++ [c]) (l.drop (p + 1)) = A → ∀ w : Option Value, EV G (d + 3) m_Km_takeEntry 95 [some (.ref m), some (.int (nI a)), some (.int (nI i)), some (.int (nI p)), some (.int (nI ps.length)), w] [] S D S Post := by
      intro hcm hA2 w
      refine EV.aload_n d_Km_takeEntry_95 rfl ?_
      refine EV.getR fl_Km_19 d_Km_takeEntry_96 (by first | assumption | rfl) rfl ?_
      refine EV.iload d_Km_takeEntry_99 rfl ?_
      refine EV.aload_n d_Km_takeEntry_101 rfl ?_
      refine EV.getR fl_Km_15 d_Km_takeEntry_102 (by first | assumption | rfl) rfl ?_
      refine EV.iload_n d_Km_takeEntry_105 rfl ?_
      refine EV.caldN d_Km_takeEntry_106 (by first | assumption | rfl) rfl rfl (by omega) (by first | decide | omega) ?_
      refine EV.top hcv ?_
      refine EV.castN d_Km_takeEntry_107 (by first | assumption | rfl) rfl rfl (by omega) (by first | decide | omega) ⟨c, by omega, rfl⟩ ?_
      refine EV.iincN d_Km_takeEntry_108 rfl (by decide) ?_
      refine EV.iincN d_Km_takeEntry_111 rfl (by decide) ?_
      refine EV.goto (tgt := 31) d_Km_takeEntry_114 (by decide) ?_
      refine EV.at (lc2 := [some (.ref m), some (.int (nI a)), some (.int (nI i)), some (.int (nI (p + 1))), some (.int (nI (ps ++ [c]).length)), w]) (by rw [List.length_append]; rfl) ?_
      refine ih i (p + 1) s (ps ++ [c]) _ w (by omega) (by omega) ?_ hi hso ?_ ?_ (by rw [List.length_append, List.length_singleton]; omega) hA2
      · intro k hk; rw [mx_w_ne _ _ _ hk]; exact hF k hk
      · rw [mx_w_eq]; exact ar_snoc hP
      · intro x hx
        rcases List.mem_append.mp hx with h | h
        · exact hps x h
        · simp at h; subst h; exact hcm
    refine EV.iload_n d_Km_takeEntry_31 rfl ?_
    refine EV.aload_n d_Km_takeEntry_32 rfl ?_
    refine EV.getI fl_Km_57 d_Km_takeEntry_33 (by first | assumption | rfl) rfl ?_
    refine EV.icmp_geN (tgt := 117) d_Km_takeEntry_36 (by decide) rfl hln2 (by omega) (by omega) (fun h36 => ?_) (fun h36 => ?_)
    · exfalso
      omega
    · refine EV.aload_n d_Km_takeEntry_39 rfl ?_
      refine EV.getR fl_Km_15 d_Km_takeEntry_40 (by first | assumption | rfl) rfl ?_
      refine EV.iload_n d_Km_takeEntry_43 rfl ?_
      refine EV.caldN d_Km_takeEntry_44 (by first | assumption | rfl) rfl rfl (by omega) (by first | decide | omega) ?_
      refine EV.top hcv ?_
      refine EV.T1 cs_Km_65 d_Km_takeEntry_45 (sp_To_isMark (by omega)) ⟨Nat.le_refl _, Nat.le_refl _⟩ rfl rfl (Nat.le_of_ble_eq_true rfl) (fun rv D1 hp => ?_)
      obtain ⟨rfl, hD⟩ := hp
      obtain rfl := hD.symm
      refine EV.if_eqB (tgt := 117) d_Km_takeEntry_48 (by decide) (fun h48 => ?_) (fun h48 => ?_)
      · rw [if_neg (by simp [h48])] at hA
        subst hA
        exact K i p D v5 hF hi hso hP hps hdr h1 hlen
      rw [if_pos h48] at hA
      refine EV.aload_n d_Km_takeEntry_51 rfl ?_
      refine EV.aload_n d_Km_takeEntry_52 rfl ?_
      refine EV.getR fl_Km_15 d_Km_takeEntry_53 (by first | assumption | rfl) rfl ?_
      refine EV.iload_n d_Km_takeEntry_56 rfl ?_
      refine EV.caldN d_Km_takeEntry_57 (by first | assumption | rfl) rfl rfl (by omega) (by first | decide | omega) ?_
      refine EV.top hcv ?_
      refine EV.iload d_Km_takeEntry_58 rfl ?_
      refine EV.V2 cv_Km_101 d_Km_takeEntry_60 (by first | assumption | rfl) (sp_Km_isBlocked hM hP (by omega) (fun x hx => by have := ps_mark_c (hps x hx); omega) (by omega)) ⟨Nat.le_refl _, Nat.le_refl _⟩ rfl rfl (Nat.le_of_ble_eq_true rfl) (fun rv D1 hp => ?_)
      obtain ⟨rfl, hD⟩ := hp
      obtain rfl := hD.symm
      refine EV.if_eqB (tgt := 70) d_Km_takeEntry_63 (by decide) (fun h63 => ?_) (fun h63 => ?_)
      · refine EV.aload_n d_Km_takeEntry_70 rfl ?_
        refine EV.iload_n d_Km_takeEntry_71 rfl ?_
        refine EV.aload_n d_Km_takeEntry_72 rfl ?_
        refine EV.getR fl_Km_15 d_Km_takeEntry_73 (by first | assumption | rfl) rfl ?_
        refine EV.iload_n d_Km_takeEntry_76 rfl ?_
        refine EV.caldN d_Km_takeEntry_77 (by first | assumption | rfl) rfl rfl (by omega) (by first | decide | omega) ?_
        refine EV.top hcv ?_
        refine EV.V2 cv_Km_105 d_Km_takeEntry_78 (by first | assumption | rfl) (sp_Km_findLonger hM hT hB2 hok hi hso hcc) ⟨Nat.le_refl _, Nat.le_refl _⟩ rfl rfl (Nat.le_of_ble_eq_true rfl) (fun rv D1 hp => ?_)
        obtain ⟨rfl, hD⟩ := hp
        obtain rfl := hD.symm
        cases hfl : (if s.length < 3 then ps_idx tb (s ++ [c]) else none) with
        | none =>
          have e1 : ps_fl tb s c = -1 := by
            unfold ps_fl
            by_cases q3 : s.length < 3
            · rw [if_pos q3] at hfl ⊢
              rw [hfl]
            · rw [if_neg q3]
          rw [e1]
          refine EV.istore d_Km_takeEntry_81 (by decide) ?_
          refine EV.iload d_Km_takeEntry_83 rfl ?_
          refine EV.iconst (v := (-1)) d_Km_takeEntry_85 (by decide) ?_
          refine EV.icmp_eq (tgt := 95) d_Km_takeEntry_86 (by decide) (fun _ => ?_) (fun h => absurd rfl h)
          rw [if_neg (fun z => by
            rw [if_pos z.2.1] at hfl
            rw [hfl] at z
            exact absurd z.2.2 (by simp))] at hA
          exact KP h48 hA _
        | some j =>
          have q3 : s.length < 3 := by
            by_cases q3 : s.length < 3
            · exact q3
            · rw [if_neg q3] at hfl; cases hfl
          rw [if_pos q3] at hfl
          have hjl := ps_idx_lt hfl
          have e1 : ps_fl tb s c = nI j := by
            unfold ps_fl
            rw [if_pos q3, hfl]
          rw [e1]
          refine EV.istore d_Km_takeEntry_81 (by decide) ?_
          refine EV.iload d_Km_takeEntry_83 rfl ?_
          refine EV.iconst (v := (-1)) d_Km_takeEntry_85 (by decide) ?_
          refine EV.icmp_eq (tgt := 95) d_Km_takeEntry_86 (by decide) (fun h => absurd h (nI_m1 (by omega))) (fun _ => ?_)
          rw [if_pos ⟨h63, q3, by rw [hfl]; rfl⟩] at hA
          refine EV.iload d_Km_takeEntry_89 rfl ?_
          refine EV.istore_n d_Km_takeEntry_91 (by decide) ?_
          refine EV.goto (tgt := 111) d_Km_takeEntry_92 (by decide) ?_
          refine EV.iincN d_Km_takeEntry_111 rfl (by decide) ?_
          refine EV.goto (tgt := 31) d_Km_takeEntry_114 (by decide) ?_
          refine ih j (p + 1) (s ++ [c]) ps D _ (by omega) (by omega) hF hfl ⟨by simp, by simp; omega, fun x hx => ?_⟩ hP hps (by omega) hA
          rcases List.mem_append.mp hx with h | h
          · exact hso.2.2 x h
          · simp at h; subst h; exact hcc
      · refine EV.iconst (v := (-1)) d_Km_takeEntry_66 (by decide) ?_
        refine EV.goto (tgt := 81) d_Km_takeEntry_67 (by decide) ?_
        refine EV.istore d_Km_takeEntry_81 (by decide) ?_
        refine EV.iload d_Km_takeEntry_83 rfl ?_
        refine EV.iconst (v := (-1)) d_Km_takeEntry_85 (by decide) ?_
        refine EV.icmp_eq (tgt := 95) d_Km_takeEntry_86 (by decide) (fun _ => ?_) (fun h => absurd rfl h)
        rw [if_neg (by simp [h63])] at hA
        exact KP h48 hA _
set_option maxHeartbeats 4000000 in
set_option maxRecDepth 100000 in
theorem sp_Km_takeEntry {G : mx_G} {d : Nat} {S : List mx_Sh} {D0 : mx_Mem} {m t a c : Nat} {tb : ps_T} {sh : Bool} {es : List ps_E} {l : List Nat} {A : List Nat × List Nat × List Nat} (hM : ShM S m t) (hT : ShT S t) (hmt : t + 5 < m ∨ m + 7 < t) (hB : TBw D0 t tb) (hok : ps_ok tb) (har : ar (D0 (m + 1)) l) (hln : D0 m 4 = nI l.length) (hl : l.length ≤ 12) (hch : ∀ c ∈ l, 0 < c ∧ c < 128) (hE : WE D0 m es) (hsh : D0 m 8 = bI sh) (hc : l[a]? = some c) (hcs : ps_has tb [c]) (hcap : es.length + (l.length - a) ≤ 12) (hA : ps_abs tb (ps_first tb (l.drop a)) [] (l.drop (a + (ps_first tb (l.drop a)).length)) = A) : EV G (d + 3) m_Km_takeEntry 0 (mx_lc0 m_Km_takeEntry [.ref m, .int (nI a)]) [] S D0 S (fun rv D' => ∃ p, rv = some (.int (nI p)) ∧ a < p ∧ p ≤ l.length ∧ l.drop p = A.2.2 ∧ FrT m D0 D' ∧ (∀ j, ¬ j = 5 → ¬ j = 6 → D' m j = D0 m j) ∧ D' m 6 = bI (ps_isv A.1) ∧ WE D' m (es ++ el_e tb sh A.1 :: el_ms sh (ps_isv A.1) A.2.1) ∧ 1 + A.2.1.length + a ≤ p) := by
  obtain ⟨hm0, hm1, hm2, hm3, hm4, hm5, hm6, hm7⟩ := id hM
  obtain ⟨hs0, hs1, hs2, hs3, hs4, hs5⟩ := id hT
  have hal : a < l.length := (List.getElem?_eq_some_iff.mp hc).1
  have hl30 := hok.2.1
  have hLch : ∀ c ∈ l.drop a, 0 < c ∧ c < 128 := fun c hc => hch c (List.mem_of_mem_drop hc)
  have hL1 : (l.drop a).take 1 = [c] := by rw [List.drop_eq_getElem_cons hal, (List.getElem?_eq_some_iff.mp hc).2]; rfl
  have hgd : ∀ j (hj : j < tb.length), (tb.map Prod.fst).getD j [] = tb[j].1 := fun j hj => by simp [hj]
  have hh : ps_enc 256 ((l.drop a).take 3) < 2 ^ 31 := by
    have h1 := ps_enc_lt (b := 256) (s := (l.drop a).take 3) (fun x hx => by have := hLch x (List.mem_of_mem_take hx); omega)
    have h2 : 256 ^ ((l.drop a).take 3).length ≤ 256 ^ 3 := Nat.pow_le_pow_right (by decide) (by rw [List.length_take]; omega)
    omega
  show EV _ _ _ _ [some (.ref m), some (.int (nI a)), none, none, none, none] [] _ _ _ _
  refine EV.aload_n d_Km_takeEntry_0 rfl ?_
  refine EV.getR fl_Km_9 d_Km_takeEntry_1 (by first | assumption | rfl) rfl ?_
  refine EV.aload_n d_Km_takeEntry_4 rfl ?_
  refine EV.iload_n d_Km_takeEntry_5 rfl ?_
  refine EV.V1 cv_Km_86 d_Km_takeEntry_6 (by first | assumption | rfl) (sp_Km_headAt hM har hln hl hal hch) ⟨Nat.le_refl _, Nat.le_refl _⟩ rfl rfl (Nat.le_of_ble_eq_true rfl) (fun rv D1 hp => ?_)
  obtain ⟨rfl, hD⟩ := hp
  obtain rfl := hD.symm
  refine EV.V1 cv_Km_89 d_Km_takeEntry_9 (by first | assumption | rfl) (sp_Ta_findLongest (e := fun j => ps_enc 256 ((tb.map Prod.fst).getD j [])) hT hB.1 hok.2.1 hh (fun j hj => ⟨by rw [hgd j hj]; exact (hB.2.1 j _ (List.getElem?_eq_getElem hj)).1, by rw [hgd j hj]; have := ps_enc_b (b := 256) (Or.inr rfl) (hok.1 _ (List.getElem_mem hj)).1; omega⟩)) ⟨Nat.le_refl _, Nat.le_refl _⟩ rfl rfl (Nat.le_of_ble_eq_true rfl) (fun rv D1 hp => ?_)
  obtain ⟨hD, b, bl, rfl, hLng⟩ := hp
  obtain rfl := hD.symm
  obtain ⟨hib, hso, htk⟩ := Lng_first hok hLch hL1 hcs hLng
  have hbl2 := ps_idx_lt hib
  obtain ⟨⟨e, he, hes⟩, -⟩ := ps_idx_some.mp hib
  have hev : D0 (t + 1) b = nI (ps_enc 256 (ps_first tb (l.drop a))) := by rw [← hes]; exact (hB.2.1 b e he).1
  have hb24 := ps_enc_b (Or.inr rfl) hso
  have hfl : (ps_first tb (l.drop a)).length ≤ l.length - a := by
    have := congrArg List.length htk
    rw [List.length_take, List.length_drop] at this
    omega
  have hs1' := hso.1
  refine EV.istore_n d_Km_takeEntry_12 (by decide) ?_
  refine EV.iload_n d_Km_takeEntry_13 rfl ?_
  refine EV.aload_n d_Km_takeEntry_14 rfl ?_
  refine EV.getR fl_Km_9 d_Km_takeEntry_15 (by first | assumption | rfl) rfl ?_
  refine EV.getR fl_Km_94 d_Km_takeEntry_18 (by first | assumption | rfl) rfl ?_
  refine EV.iload_n d_Km_takeEntry_21 rfl ?_
  refine EV.ialdN d_Km_takeEntry_22 (by first | assumption | rfl) rfl rfl (by omega) (by first | decide | omega) ?_
  refine EV.top hev ?_
  refine EV.T1 cs_Km_98 d_Km_takeEntry_23 (sp_To_lengthOf (by omega)) ⟨Nat.le_refl _, Nat.le_refl _⟩ rfl rfl (Nat.le_of_ble_eq_true rfl) (fun rv D1 hp => ?_)
  obtain ⟨rfl, hD⟩ := hp
  obtain rfl := hD.symm
  rw [ps_len_enc hso]
  refine EV.iadd d_Km_takeEntry_26 ?_
  refine EV.top (y := nI (a + (ps_first tb (l.drop a)).length)) (nI_add _ _) ?_
  refine EV.istore_n d_Km_takeEntry_27 (by decide) ?_
  refine EV.iconst (v := nI 0) d_Km_takeEntry_28 (by decide) ?_
  refine EV.istore d_Km_takeEntry_29 (by decide) ?_
  refine lp_Km_takeEntry31 hM hT hmt hB hok har hln hl hch ?_ (l.length - (a + (ps_first tb (l.drop a)).length)) b (a + (ps_first tb (l.drop a)).length) (ps_first tb (l.drop a)) [] D0 none (by omega) rfl (fun _ _ => rfl) hib hso (ar_nil _) (fun x hx => by cases hx) (by simp; omega) hA
  intro i p D v5 hF hi hso2 hP hps hdp hp1 hp2
  refine EV.aload_n d_Km_takeEntry_117 rfl ?_
  refine EV.iload_n d_Km_takeEntry_118 rfl ?_
  refine EV.V1 cv_Km_109 d_Km_takeEntry_119 (by first | assumption | rfl) (sp_Km_addEntry (sh := sh) (es := es) (tb := tb) (s := A.1) hM hT hmt (TBw_kept hB (fun j hj => hF (t + j) (by omega))) (WE_kept hE (by rw [hF m (by omega)]) (fun j h4 h7 => hF (m + j) (by omega))) (by omega) (by rw [hF m (by omega)]; exact hsh) hi hso2 hok.2.1) ⟨Nat.le_refl _, Nat.le_refl _⟩ rfl rfl (Nat.le_of_ble_eq_true rfl) (fun rv D1 hp => ?_)
  obtain ⟨rfl, q1, q2, q3, q4⟩ := hp
  refine EV.iconst (v := nI 0) d_Km_takeEntry_122 (by decide) ?_
  refine EV.istore d_Km_takeEntry_123 (by decide) ?_
  refine EV.post (fun rv D' h => ⟨p, h.1, by omega, hp1, hdp, fun k k0 k2 k4 k5 k6 k7 => ((h.2.1 k k0 k4 k5 k6 k7).trans (q1 k k0 k4 k5 k6 k7)).trans (hF k k2), fun j j5 j6 => ((h.2.2.1 j j5).trans (q2 j j5 j6)).trans (by rw [hF m (by omega)]), (h.2.2.1 6 (by decide)).trans q3, ?_, by omega⟩) (lp_Km_takeEntry125 (d := d + 1) (es := es ++ [el_e tb sh A.1]) (sh := sh) (v := ps_isv A.1) (ps := A.2.1) hM (by rw [q1 (m + 2) (by omega) (by omega) (by omega) (by omega) (by omega)]; exact hP) (by rw [List.length_append, List.length_singleton]; omega) hps (by rw [q2 8 (by decide) (by decide), hF m (by omega)]; exact hsh) q3 A.2.1.length 0 D1 (by omega) rfl (fun _ _ _ _ _ _ => rfl) (fun _ _ => rfl) (by rw [List.take_zero, show el_ms sh (ps_isv A.1) [] = [] from by simp [el_ms], List.append_nil]; exact q4))
  have := h.2.2.2
  rw [List.append_assoc] at this
  exact this
