def ps_pf (tb : ps_T) (l : List Nat) (n : Nat) : List Nat := if n = 3 then ps_first tb l else if n = 2 then (if (ps_idx tb (l.take 2)).isSome then l.take 2 else l.take 1) else l.take 1
theorem ps_pf_0 (tb : ps_T) {l : List Nat} (h : 1 ≤ l.length) : ps_first tb l = ps_pf tb l (if l.length < 3 then l.length else 3) := by
  rcases (show l.length = 1 ∨ l.length = 2 ∨ 3 ≤ l.length by omega) with h1 | h1 | h1
  · have e : (if l.length < 3 then l.length else 3) = 1 := by rw [h1]; rfl
    rw [e]
    unfold ps_pf
    rw [if_neg (by decide), if_neg (by decide)]
    unfold ps_first
    rw [List.take_of_length_le (i := 3) (by omega), List.take_of_length_le (i := 2) (by omega), List.take_of_length_le (i := 1) (by omega)]
    split <;> rfl
  · have e : (if l.length < 3 then l.length else 3) = 2 := by rw [h1]; rfl
    rw [e]
    unfold ps_pf
    rw [if_neg (by decide), if_pos rfl]
    unfold ps_first
    rw [List.take_of_length_le (i := 3) (by omega), List.take_of_length_le (i := 2) (by omega)]
    split <;> rfl
  · have e : (if l.length < 3 then l.length else 3) = 3 := if_neg (by omega)
    rw [e]
    unfold ps_pf
    rw [if_pos rfl]
theorem ps_pf_y {tb : ps_T} {l : List Nat} {n i : Nat} (h1 : 1 ≤ n) (h3 : n ≤ 3) (h : ps_idx tb (l.take n) = some i) : ps_pf tb l n = l.take n := by
  unfold ps_pf
  rcases (show n = 1 ∨ n = 2 ∨ n = 3 by omega) with rfl | rfl | rfl
  · rfl
  · rw [if_neg (by decide), if_pos rfl, if_pos (by rw [h]; rfl)]
  · rw [if_pos rfl]
    unfold ps_first
    rw [if_pos (by rw [h]; rfl)]
theorem ps_pf_n {tb : ps_T} {l : List Nat} {n : Nat} (h1 : 1 ≤ n) (h3 : n + 1 ≤ 3) (h : ps_idx tb (l.take (n + 1)) = none) : ps_pf tb l (n + 1) = ps_pf tb l n := by
  unfold ps_pf
  rcases (show n = 1 ∨ n = 2 by omega) with rfl | rfl
  · rw [if_neg (by decide), if_pos rfl, if_neg (by rw [h]; decide), if_neg (by decide), if_neg (by decide)]
  · rw [if_pos rfl, if_neg (by decide), if_pos rfl]
    unfold ps_first
    rw [if_neg (by rw [h]; decide)]
set_option maxHeartbeats 4000000 in
set_option maxRecDepth 100000 in
theorem lp_Mo_ee2 {G : mx_G} {d : Nat} {S : List mx_Sh} {D0 : mx_Mem} {tb : ps_T} {sh : Bool} {es : List ps_E} {A : List Nat × List Nat × List Nat} {l : List Nat} (hS : SM S) (hT : TC D0 tb sh) (hes : es.length < 12) (h12 : l.length ≤ 12) (hch : ∀ c ∈ l, 0 < c ∧ c < 128) {n j : Nat} {v4 v5 v6 v7 v8 : Option Value} (h1 : 1 ≤ n) (h3 : n ≤ 3) (hn : n ≤ l.length) (hi : ps_idx tb (l.take n) = some j) (hA : ps_abs tb (l.take n) [] (l.drop n) = A) : ∀ (m i : Nat) (D : mx_Mem), i ≤ n → n - i = m → FrM D0 D → RS D (l.drop i) es → EV G (d + 1) m_Mo_entryElement 45 [some (.ref 80), some (.int (nI n)), some (.int (nI (ps_enc 128 (l.take n)))), some (.int (nI i)), v4, v5, v6, v7, v8] [] S D S (EEP D0 tb sh es A) := by
  obtain ⟨hm0, hm1, hm2, hm3, hm4, hm5, hm6, hm7, hm8, hm9, hm10, hm11, hm12⟩ := id hS
  have hso : ps_so (l.take n) := ⟨by rw [List.length_take]; omega, by rw [List.length_take]; omega, fun c hc => hch c (List.mem_of_mem_take hc)⟩
  have htl : (l.take n).length = n := by rw [List.length_take]; omega
  intro m
  induction m with
  | zero =>
    intro i D hi1 hi2 hF hR
    have ei : i = n := by omega
    subst ei
    refine EV.iload_n d_Mo_entryElement_45 rfl ?_
    refine EV.iload_n d_Mo_entryElement_46 rfl ?_
    refine EV.icmp_geN (tgt := 61) d_Mo_entryElement_47 (by decide) rfl rfl (by omega) (by omega) (fun _ => ?_) (fun h => absurd h (by omega))
    refine EV.iconst (v := nI 0) d_Mo_entryElement_61 (by decide) ?_
    refine EV.istore_n d_Mo_entryElement_62 (by decide) ?_
    refine EV.iconst (v := nI 0) d_Mo_entryElement_63 (by decide) ?_
    refine EV.istore d_Mo_entryElement_64 (by decide) ?_
    refine EV.iconst (v := nI 0) d_Mo_entryElement_66 (by decide) ?_
    refine EV.istore d_Mo_entryElement_67 (by decide) ?_
    have J := lp_Mo_ee3 (G := G) (d := d) (A := A) hS hT hes (l.drop i) (l.take i) [] j D v6 v7 v8 hF (by simpa using hR) hso hi (fun c hc => hch c (List.mem_of_mem_drop hc)) (by simp; omega) hA
    rw [htl] at J
    exact J
  | succ m ih =>
    intro i D hi1 hi2 hF hR
    have hl : (l.drop i).length = l.length - i := List.length_drop
    refine EV.iload_n d_Mo_entryElement_45 rfl ?_
    refine EV.iload_n d_Mo_entryElement_46 rfl ?_
    refine EV.icmp_geN (tgt := 61) d_Mo_entryElement_47 (by decide) rfl rfl (by omega) (by omega) (fun h => absurd h (by omega)) (fun _ => ?_)
    refine EV.aload_n d_Mo_entryElement_50 rfl ?_
    refine EV.iconst (v := nI 0) d_Mo_entryElement_51 (by decide) ?_
    refine EV.V1 cv_Mo_125 d_Mo_entryElement_52 (by first | assumption | rfl) (sp_Mo_remove (a := 0) hS hR.1.1 hR.1.2 (by omega) (by omega)) ⟨Nat.le_refl _, Nat.le_refl _⟩ rfl rfl (Nat.le_of_ble_eq_true rfl) (fun rv D1 hp => ?_)
    obtain ⟨rfl, q1, q2, q3, q4, q5⟩ := hp
    refine EV.iincN d_Mo_entryElement_55 rfl (by decide) ?_
    refine EV.goto (tgt := 45) d_Mo_entryElement_58 (by decide) ?_
    have e1 : (l.drop i).eraseIdx 0 = l.drop (i + 1) := by simp
    rw [e1] at q4 q5
    exact ih (i + 1) D1 (by omega) (by omega) (FrM_t hF q1) ⟨⟨q4, q5⟩, by rw [q2 19 (by omega)]; exact hR.2.1, by rw [q3]; exact hR.2.2⟩
set_option maxHeartbeats 4000000 in
set_option maxRecDepth 100000 in
theorem lp_Mo_ee1 {G : mx_G} {d : Nat} {S : List mx_Sh} {D0 : mx_Mem} {tb : ps_T} {sh : Bool} {es : List ps_E} {A : List Nat × List Nat × List Nat} {l : List Nat} (hS : SM S) (hT : TC D0 tb sh) (hes : es.length < 12) (h12 : l.length ≤ 12) (hch : ∀ c ∈ l, 0 < c ∧ c < 128) {v3 v4 v5 v6 v7 v8 : Option Value} (hR : RS D0 l es) (hb : ∃ j, ps_idx tb (l.take 1) = some j) (hA : ps_abs tb (ps_first tb l) [] (l.drop (ps_first tb l).length) = A) : ∀ (n : Nat), 1 ≤ n → n ≤ 3 → n ≤ l.length → ps_first tb l = ps_pf tb l n → EV G (d + 1) m_Mo_entryElement 23 [some (.ref 80), some (.int (nI n)), some (.int (nI (ps_enc 128 (l.take n)))), v3, v4, v5, v6, v7, v8] [] S D0 S (EEP D0 tb sh es A) := by
  obtain ⟨hm0, hm1, hm2, hm3, hm4, hm5, hm6, hm7, hm8, hm9, hm10, hm11, hm12⟩ := id hS
  intro n
  induction n with
  | zero => intro h; omega
  | succ n ih =>
    intro h1 h3 hn hpf
    have hso : ps_so (l.take (n + 1)) := ⟨by rw [List.length_take]; omega, by rw [List.length_take]; omega, fun c hc => hch c (List.mem_of_mem_take hc)⟩
    refine EV.aload_n d_Mo_entryElement_23 rfl ?_
    refine EV.iload_n d_Mo_entryElement_24 rfl ?_
    refine EV.V1 cv_Mo_122 d_Mo_entryElement_25 (by first | assumption | rfl) (sp_Mo_find hS hT.1.1 hT.2.2.2.1) ⟨Nat.le_refl _, Nat.le_refl _⟩ rfl rfl (Nat.le_of_ble_eq_true rfl) (fun rv D1 hp => ?_)
    obtain ⟨hD, r, rfl, hFd⟩ := hp
    obtain rfl := hD.symm
    rcases Fnd_idx (Or.inl rfl) (fun e he => (hT.2.2.1 e he).1) hT.1.2 hso hFd with ⟨j, hj, hjl, rfl⟩ | ⟨hj, rfl⟩
    · have h30 := hT.2.2.2.1
      rw [ps_pf_y h1 h3 hj] at hpf
      have htl : (l.take (n + 1)).length = n + 1 := by rw [List.length_take]; omega
      rw [hpf, htl] at hA
      refine EV.if_geN (tgt := 43) d_Mo_entryElement_28 rfl (by omega) (by decide) ?_
      refine EV.iconst (v := nI 0) d_Mo_entryElement_43 (by decide) ?_
      refine EV.istore_n d_Mo_entryElement_44 (by decide) ?_
      exact lp_Mo_ee2 hS hT hes h12 hch h1 h3 hn hj hA (n + 1) 0 D0 (by omega) rfl (FrM_r _) hR
    · have hn1 : 1 ≤ n := by
        rcases Nat.eq_zero_or_pos n with h | h
        · exfalso
          subst h
          obtain ⟨j, hb⟩ := hb
          rw [hj] at hb; cases hb
        · exact h
      rw [ps_pf_n hn1 h3 hj] at hpf
      refine EV.if_ge (tgt := 43) d_Mo_entryElement_28 (by decide) (fun h => absurd h (by decide)) (fun _ => ?_)
      refine EV.iincM d_Mo_entryElement_31 rfl (by decide) ?_
      refine EV.aload_n d_Mo_entryElement_34 rfl ?_
      refine EV.iload_n d_Mo_entryElement_35 rfl ?_
      refine EV.V1 cv_Mo_119 d_Mo_entryElement_36 (by first | assumption | rfl) (sp_Mo_begins hS hR.1.2 (by omega) hn1 h12) ⟨Nat.le_refl _, Nat.le_refl _⟩ rfl rfl (Nat.le_of_ble_eq_true rfl) (fun rv D1 hp => ?_)
      obtain ⟨rfl, hD⟩ := hp
      obtain rfl := hD.symm
      refine EV.istore_n d_Mo_entryElement_39 (by decide) ?_
      refine EV.goto (tgt := 23) d_Mo_entryElement_40 (by decide) ?_
      exact ih hn1 (by omega) (by omega) hpf
set_option maxHeartbeats 4000000 in
set_option maxRecDepth 100000 in
theorem sp_Mo_entryElement {G : mx_G} {d : Nat} {S : List mx_Sh} {D0 : mx_Mem} {tb : ps_T} {sh : Bool} {es : List ps_E} {A : List Nat × List Nat × List Nat} {l : List Nat} (hS : SM S) (hT : TC D0 tb sh) (hes : es.length < 12) (h12 : l.length ≤ 12) (hch : ∀ c ∈ l, 0 < c ∧ c < 128) (hR : RS D0 l es) (h1 : 1 ≤ l.length) (hb : ∃ j, ps_idx tb (l.take 1) = some j) (hA : ps_abs tb (ps_first tb l) [] (l.drop (ps_first tb l).length) = A) : EV G (d + 1) m_Mo_entryElement 0 (mx_lc0 m_Mo_entryElement [.ref 80]) [] S D0 S (EEP D0 tb sh es A) := by
  obtain ⟨hm0, hm1, hm2, hm3, hm4, hm5, hm6, hm7, hm8, hm9, hm10, hm11, hm12⟩ := id hS
  show EV _ _ _ _ [some (.ref 80), none, none, none, none, none, none, none, none] [] _ _ _ _
  refine EV.aload_n d_Mo_entryElement_0 rfl ?_
  refine EV.getI fl_Mo_99 d_Mo_entryElement_1 (by first | assumption | rfl) rfl ?_
  refine EV.iconst (v := nI 3) d_Mo_entryElement_4 (by decide) ?_
  refine EV.icmp_geN (tgt := 15) d_Mo_entryElement_5 (by decide) hR.1.1 rfl (by omega) (by omega) (fun h5 => ?_) (fun h5 => ?_)
  · have hpf := ps_pf_0 tb h1
    rw [if_neg (by omega)] at hpf
    refine EV.iconst (v := nI 3) d_Mo_entryElement_15 (by decide) ?_
    refine EV.istore_n d_Mo_entryElement_16 (by decide) ?_
    refine EV.aload_n d_Mo_entryElement_17 rfl ?_
    refine EV.iload_n d_Mo_entryElement_18 rfl ?_
    refine EV.V1 cv_Mo_119 d_Mo_entryElement_19 (by first | assumption | rfl) (sp_Mo_begins hS hR.1.2 (by omega) (by omega) h12) ⟨Nat.le_refl _, Nat.le_refl _⟩ rfl rfl (Nat.le_of_ble_eq_true rfl) (fun rv D1 hp => ?_)
    obtain ⟨rfl, hD⟩ := hp
    obtain rfl := hD.symm
    refine EV.istore_n d_Mo_entryElement_22 (by decide) ?_
    exact lp_Mo_ee1 hS hT hes h12 hch hR hb hA _ (by omega) (by omega) (by omega) hpf
  · have hpf := ps_pf_0 tb h1
    rw [if_pos (by omega)] at hpf
    refine EV.aload_n d_Mo_entryElement_8 rfl ?_
    refine EV.getI fl_Mo_99 d_Mo_entryElement_9 (by first | assumption | rfl) rfl ?_
    refine EV.top hR.1.1 ?_
    refine EV.goto (tgt := 16) d_Mo_entryElement_12 (by decide) ?_
    refine EV.istore_n d_Mo_entryElement_16 (by decide) ?_
    refine EV.aload_n d_Mo_entryElement_17 rfl ?_
    refine EV.iload_n d_Mo_entryElement_18 rfl ?_
    refine EV.V1 cv_Mo_119 d_Mo_entryElement_19 (by first | assumption | rfl) (sp_Mo_begins hS hR.1.2 (by omega) (by omega) h12) ⟨Nat.le_refl _, Nat.le_refl _⟩ rfl rfl (Nat.le_of_ble_eq_true rfl) (fun rv D1 hp => ?_)
    obtain ⟨rfl, hD⟩ := hp
    obtain rfl := hD.symm
    refine EV.istore_n d_Mo_entryElement_22 (by decide) ?_
    exact lp_Mo_ee1 hS hT hes h12 hch hR hb hA _ (by omega) (by omega) (by omega) hpf
theorem ps_pass_len : ∀ l : List Nat, (ps_pass l).length = l.length := by
  intro l
  induction l using ps_pass.induct with
  | case1 => simp [ps_pass]
  | case2 a => simp [ps_pass]
  | case3 a b r h ih => rw [ps_pass, if_pos h]; simp [ih]
  | case4 a b r h ih => rw [ps_pass, if_neg h]; simp [ih]
theorem ps_pass_mem {x : Nat} : ∀ l : List Nat, x ∈ ps_pass l → x ∈ l := by
  intro l
  induction l using ps_pass.induct with
  | case1 => simp [ps_pass]
  | case2 a => simp [ps_pass]
  | case3 a b r h ih =>
    rw [ps_pass, if_pos h]
    intro hx
    rcases List.mem_cons.mp hx with h | h
    · subst h; simp
    · have := ih h
      rcases List.mem_cons.mp this with h | h
      · subst h; simp
      · simp [h]
  | case4 a b r h ih =>
    rw [ps_pass, if_neg h]
    intro hx
    rcases List.mem_cons.mp hx with h | h
    · subst h; simp
    · exact List.mem_cons_of_mem _ (ih h)
theorem ar_swap {f : Nat → Int32} {pre r : List Nat} {a b : Nat} (h : ar f (pre ++ a :: b :: r)) : ar (upd (upd f pre.length (nI b)) (pre.length + 1) (nI a)) (pre ++ b :: a :: r) := by
  intro i x hx
  unfold upd
  by_cases h1 : i = pre.length + 1
  · subst h1
    rw [if_pos rfl]
    rw [List.getElem?_append_right (by omega), Nat.add_sub_cancel_left] at hx
    simp at hx
    rw [hx]
  · rw [if_neg h1]
    by_cases h2 : i = pre.length
    · subst h2
      rw [if_pos rfl]
      simp at hx
      rw [hx]
    · rw [if_neg h2]
      refine h i x ?_
      rcases Nat.lt_or_ge i pre.length with h3 | h3
      · rw [List.getElem?_append_left h3] at hx ⊢
        exact hx
      · rw [List.getElem?_append_right h3] at hx ⊢
        obtain ⟨k, hk⟩ : ∃ k, i - pre.length = k + 2 := ⟨i - pre.length - 2, by omega⟩
        rw [hk] at hx ⊢
        exact hx
set_option maxHeartbeats 4000000 in
set_option maxRecDepth 100000 in
theorem lp_Mo_settle2 {G : mx_G} {d : Nat} {S : List mx_Sh} {D0 : mx_Mem} {R : Nat} {L : List Nat} {Post : Option Value → mx_Mem → Prop} (hS : SM S) (hL : D0 80 17 = nI L.length) (h12 : L.length ≤ 12) (K : ∀ (D : mx_Mem) (v2 v3 v4 : Option Value), (∀ k, ¬ k = 89 → D k = D0 k) → ar (D 89) L → EV G (d + 1) m_Mo_settle 94 [some (.ref 80), some (.int (nI R)), v2, v3, v4] [] S D S Post) : ∀ (r : List Nat) (pre : List Nat) (a : Nat) (D : mx_Mem) (v3 v4 : Option Value), (∀ k, ¬ k = 89 → D k = D0 k) → ar (D 89) (pre ++ a :: r) → (∀ c ∈ pre ++ a :: r, c < 128) → pre ++ ps_pass (a :: r) = L → EV G (d + 1) m_Mo_settle 12 [some (.ref 80), some (.int (nI R)), some (.int (nI pre.length)), v3, v4] [] S D S Post := by
  obtain ⟨hm0, hm1, hm2, hm3, hm4, hm5, hm6, hm7, hm8, hm9, hm10, hm11, hm12⟩ := id hS
  intro r
  induction r with
  | nil =>
    intro pre a D v3 v4 ho har hch hp
    have hln : D 80 17 = nI L.length := by rw [ho 80 (by omega)]; exact hL
    have hll : L.length = pre.length + 1 := by rw [← hp]; simp [ps_pass]
    have hpl : ps_pass [a] = [a] := by simp [ps_pass]
    rw [hpl] at hp
    rw [hp] at har
    refine EV.iload_n d_Mo_settle_12 rfl ?_
    refine EV.iconst (v := nI 1) d_Mo_settle_13 (by decide) ?_
    refine EV.iadd d_Mo_settle_14 ?_
    refine EV.aload_n d_Mo_settle_15 rfl ?_
    refine EV.getI fl_Mo_99 d_Mo_settle_16 (by first | assumption | rfl) rfl ?_
    refine EV.icmp_geN (tgt := 94) d_Mo_settle_19 (by decide) (nI_1 _) hln (by omega) (by omega) (fun _ => ?_) (fun h => absurd h (by omega))
    exact K D _ _ _ ho har
  | cons b r ih =>
    intro pre a D v3 v4 ho har hch hp
    have hln : D 80 17 = nI L.length := by rw [ho 80 (by omega)]; exact hL
    have hll : L.length = pre.length + r.length + 2 := by rw [← hp, List.length_append, ps_pass_len]; simp; omega
    have ha : D 89 pre.length = nI a := har _ a (by simp)
    have hb : D 89 (pre.length + 1) = nI b := har _ b (by rw [List.getElem?_append_right (by omega), Nat.add_sub_cancel_left]; rfl)
    have hac : a < 128 := hch a (by simp)
    have hbc : b < 128 := hch b (by simp)
    rw [ps_pass] at hp
    have N : ps_must b a = false → ∀ v3 v4, EV G (d + 1) m_Mo_settle 88 [some (.ref 80), some (.int (nI R)), some (.int (nI pre.length)), v3, v4] [] S D S Post := by
      intro hno v3 v4
      rw [if_neg (by simp [hno])] at hp
      refine EV.iincN d_Mo_settle_88 rfl (by decide) ?_
      refine EV.goto (tgt := 12) d_Mo_settle_91 (by decide) ?_
      have J := ih (pre ++ [a]) b D v3 v4 ho (by rw [List.append_assoc]; exact har) (by rw [List.append_assoc]; exact hch) (by rw [List.append_assoc]; exact hp)
      rw [show (pre ++ [a]).length = pre.length + 1 by simp] at J
      exact J
    refine EV.iload_n d_Mo_settle_12 rfl ?_
    refine EV.iconst (v := nI 1) d_Mo_settle_13 (by decide) ?_
    refine EV.iadd d_Mo_settle_14 ?_
    refine EV.aload_n d_Mo_settle_15 rfl ?_
    refine EV.getI fl_Mo_99 d_Mo_settle_16 (by first | assumption | rfl) rfl ?_
    refine EV.icmp_geN (tgt := 94) d_Mo_settle_19 (by decide) (nI_1 _) hln (by omega) (by omega) (fun h => absurd h (by omega)) (fun _ => ?_)
    refine EV.aload_n d_Mo_settle_22 rfl ?_
    refine EV.getR fl_Mo_38 d_Mo_settle_23 (by first | assumption | rfl) rfl ?_
    refine EV.iload_n d_Mo_settle_26 rfl ?_
    refine EV.ialdN d_Mo_settle_27 (by first | assumption | rfl) rfl rfl (by omega) (by first | decide | omega) ?_
    refine EV.top ha ?_
    refine EV.istore_n d_Mo_settle_28 (by decide) ?_
    refine EV.aload_n d_Mo_settle_29 rfl ?_
    refine EV.getR fl_Mo_38 d_Mo_settle_30 (by first | assumption | rfl) rfl ?_
    refine EV.iload_n d_Mo_settle_33 rfl ?_
    refine EV.iconst (v := nI 1) d_Mo_settle_34 (by decide) ?_
    refine EV.iadd d_Mo_settle_35 ?_
    refine EV.ialdN d_Mo_settle_36 (by first | assumption | rfl) rfl (nI_1 _) (by omega) (by first | decide | omega) ?_
    refine EV.top hb ?_
    refine EV.istore d_Mo_settle_37 (by decide) ?_
    refine EV.iload_n d_Mo_settle_39 rfl ?_
    refine EV.T1 cs_Mo_60 d_Mo_settle_40 (sp_Mo_isMark (by omega)) ⟨Nat.le_refl _, Nat.le_refl _⟩ rfl rfl (Nat.le_of_ble_eq_true rfl) (fun rv D1 hp => ?_)
    obtain ⟨rfl, hD⟩ := hp
    obtain rfl := hD.symm
    refine EV.if_eqB (tgt := 88) d_Mo_settle_43 (by decide) (fun h => N (by unfold ps_must; simp [h]) _ _) (fun h43 => ?_)
    refine EV.iload d_Mo_settle_46 rfl ?_
    refine EV.T1 cs_Mo_60 d_Mo_settle_48 (sp_Mo_isMark (by omega)) ⟨Nat.le_refl _, Nat.le_refl _⟩ rfl rfl (Nat.le_of_ble_eq_true rfl) (fun rv D1 hp => ?_)
    obtain ⟨rfl, hD⟩ := hp
    obtain rfl := hD.symm
    refine EV.if_eqB (tgt := 88) d_Mo_settle_51 (by decide) (fun h => N (by unfold ps_must; simp [h]) _ _) (fun h51 => ?_)
    refine EV.iload_n d_Mo_settle_54 rfl ?_
    refine EV.T1 cs_Mo_102 d_Mo_settle_55 (sp_Mo_classOf (by omega)) ⟨Nat.le_refl _, Nat.le_refl _⟩ rfl rfl (Nat.le_of_ble_eq_true rfl) (fun rv D1 hp => ?_)
    obtain ⟨rfl, hD⟩ := hp
    obtain rfl := hD.symm
    refine EV.iconst (v := nI 2) d_Mo_settle_58 (by decide) ?_
    refine EV.icmp_neN (tgt := 88) d_Mo_settle_59 (by decide) rfl rfl (by have := ps_cls_or a; omega) (by omega) (fun h => N (by have h1 := ps_cls_or a; have h2 := ps_cls_or b; unfold ps_must; simp only [Bool.and_eq_false_iff, decide_eq_false_iff_not]; right; omega) _ _) (fun h59 => ?_)
    refine EV.iload d_Mo_settle_62 rfl ?_
    refine EV.T1 cs_Mo_102 d_Mo_settle_64 (sp_Mo_classOf (by omega)) ⟨Nat.le_refl _, Nat.le_refl _⟩ rfl rfl (Nat.le_of_ble_eq_true rfl) (fun rv D1 hp => ?_)
    obtain ⟨rfl, hD⟩ := hp
    obtain rfl := hD.symm
    refine EV.iconst (v := nI 1) d_Mo_settle_67 (by decide) ?_
    refine EV.icmp_neN (tgt := 88) d_Mo_settle_68 (by decide) rfl rfl (by have := ps_cls_or b; omega) (by omega) (fun h => N (by have h1 := ps_cls_or a; have h2 := ps_cls_or b; unfold ps_must; simp only [Bool.and_eq_false_iff, decide_eq_false_iff_not]; right; omega) _ _) (fun h68 => ?_)
    have hmu : ps_must b a = true := by
      unfold ps_must
      simp [h43, h51, h59, h68]
    rw [if_pos hmu] at hp
    refine EV.aload_n d_Mo_settle_71 rfl ?_
    refine EV.getR fl_Mo_38 d_Mo_settle_72 (by first | assumption | rfl) rfl ?_
    refine EV.iload_n d_Mo_settle_75 rfl ?_
    refine EV.iload d_Mo_settle_76 rfl ?_
    refine EV.iastN d_Mo_settle_78 (by first | assumption | rfl) rfl rfl (by omega) (by first | decide | omega) ?_
    refine EV.aload_n d_Mo_settle_79 rfl ?_
    refine EV.getR fl_Mo_38 d_Mo_settle_80 (by first | assumption | rfl) rfl ?_
    refine EV.iload_n d_Mo_settle_83 rfl ?_
    refine EV.iconst (v := nI 1) d_Mo_settle_84 (by decide) ?_
    refine EV.iadd d_Mo_settle_85 ?_
    refine EV.iload_n d_Mo_settle_86 rfl ?_
    refine EV.iastN d_Mo_settle_87 (by first | assumption | rfl) rfl (nI_1 _) (by omega) (by first | decide | omega) ?_
    refine EV.iincN d_Mo_settle_88 rfl (by decide) ?_
    refine EV.goto (tgt := 12) d_Mo_settle_91 (by decide) ?_
    have J := ih (pre ++ [b]) a (mx_w (mx_w D 89 pre.length (nI b)) 89 (pre.length + 1) (nI a)) (some (.int (nI a))) (some (.int (nI b))) (fun k k1 => by rw [mx_w_ne _ _ _ k1, mx_w_ne _ _ _ k1]; exact ho k k1) (by rw [List.append_assoc, mx_w_eq, mx_w_eq]; exact ar_swap har) (fun c hc => hch c (by simp at hc ⊢; rcases hc with h | h | h | h <;> simp [h])) (by rw [List.append_assoc]; exact hp)
    rw [show (pre ++ [b]).length = pre.length + 1 by simp] at J
    exact J
set_option maxHeartbeats 4000000 in
set_option maxRecDepth 100000 in
theorem lp_Mo_settle {G : mx_G} {d : Nat} {S : List mx_Sh} {D0 : mx_Mem} {N : Nat} {X : List Nat} (hS : SM S) (hL : D0 80 17 = nI N) (h12 : N ≤ 12) : ∀ (m i : Nat) (l : List Nat) (D : mx_Mem) (v2 v3 v4 : Option Value), i ≤ N → N - i = m → l.length = N → (∀ c ∈ l, c < 128) → (∀ k, ¬ k = 89 → D k = D0 k) → ar (D 89) l → ps_it (N - i) l = X → EV G (d + 1) m_Mo_settle 2 [some (.ref 80), some (.int (nI i)), v2, v3, v4] [] S D S (fun rv D' => rv = none ∧ (∀ k, ¬ k = 89 → D' k = D0 k) ∧ ar (D' 89) X) := by
  obtain ⟨hm0, hm1, hm2, hm3, hm4, hm5, hm6, hm7, hm8, hm9, hm10, hm11, hm12⟩ := id hS
  intro m
  induction m with
  | zero =>
    intro i l D v2 v3 v4 h1 h2 hl hch ho har hX
    have hln : D 80 17 = nI N := by rw [ho 80 (by omega)]; exact hL
    rw [h2] at hX
    simp only [ps_it] at hX
    subst hX
    refine EV.iload_n d_Mo_settle_2 rfl ?_
    refine EV.aload_n d_Mo_settle_3 rfl ?_
    refine EV.getI fl_Mo_99 d_Mo_settle_4 (by first | assumption | rfl) rfl ?_
    refine EV.icmp_geN (tgt := 100) d_Mo_settle_7 (by decide) rfl hln (by omega) (by omega) (fun _ => ?_) (fun h => absurd h (by omega))
    exact EV.return_ d_Mo_settle_100 rfl ⟨rfl, ho, har⟩
  | succ m ih =>
    intro i l D v2 v3 v4 h1 h2 hl hch ho har hX
    have hln : D 80 17 = nI N := by rw [ho 80 (by omega)]; exact hL
    obtain ⟨a, r, rfl⟩ : ∃ a r, l = a :: r := by
      cases l with
      | nil => simp at hl; omega
      | cons a r => exact ⟨a, r, rfl⟩
    rw [h2] at hX
    simp only [ps_it] at hX
    have hpl := ps_pass_len (a :: r)
    refine EV.iload_n d_Mo_settle_2 rfl ?_
    refine EV.aload_n d_Mo_settle_3 rfl ?_
    refine EV.getI fl_Mo_99 d_Mo_settle_4 (by first | assumption | rfl) rfl ?_
    refine EV.icmp_geN (tgt := 100) d_Mo_settle_7 (by decide) rfl hln (by omega) (by omega) (fun h => absurd h (by omega)) (fun _ => ?_)
    refine EV.iconst (v := nI 0) d_Mo_settle_10 (by decide) ?_
    refine EV.istore_n d_Mo_settle_11 (by decide) ?_
    refine lp_Mo_settle2 (L := ps_pass (a :: r)) hS (by rw [hpl, hl]; exact hln) (by omega) ?_ r [] a D v3 v4 (fun _ _ => rfl) har hch rfl
    intro D2 w2 w3 w4 ho2 har2
    refine EV.iincN d_Mo_settle_94 rfl (by decide) ?_
    refine EV.goto (tgt := 2) d_Mo_settle_97 (by decide) ?_
    exact ih (i + 1) (ps_pass (a :: r)) D2 _ _ _ (by omega) (by omega) (by omega) (fun c hc => hch c (ps_pass_mem _ hc)) (fun k k1 => (ho2 k k1).trans (ho k k1)) har2 (by rw [show N - (i + 1) = m by omega]; exact hX)
set_option maxHeartbeats 4000000 in
set_option maxRecDepth 100000 in
theorem sp_Mo_settle {G : mx_G} {d : Nat} {S : List mx_Sh} {D : mx_Mem} {l : List Nat} (hS : SM S) (hL : D 80 17 = nI l.length) (har : ar (D 89) l) (h12 : l.length ≤ 12) (hch : ∀ c ∈ l, c < 128) : EV G (d + 1) m_Mo_settle 0 (mx_lc0 m_Mo_settle [.ref 80]) [] S D S (fun rv D' => rv = none ∧ (∀ k, ¬ k = 89 → D' k = D k) ∧ ar (D' 89) (ps_arr l)) := by
  obtain ⟨hm0, hm1, hm2, hm3, hm4, hm5, hm6, hm7, hm8, hm9, hm10, hm11, hm12⟩ := id hS
  show EV _ _ _ _ [some (.ref 80), none, none, none, none] [] _ _ _ _
  refine EV.iconst (v := nI 0) d_Mo_settle_0 (by decide) ?_
  refine EV.istore_n d_Mo_settle_1 (by decide) ?_
  exact lp_Mo_settle hS hL h12 l.length 0 l D _ _ _ (by omega) rfl rfl hch (fun _ _ => rfl) har (ps_it_arr l)
