theorem fx_mn_alt (g : Nat → Int32) {a n : Nat} : fx_mn g a n = if a + 1 < n ∧ g a < g (a + 1) then upd g (a + 1) (g a) else g := by
  unfold fx_mn
  by_cases h : a + 1 < n
  · rw [if_pos h]
    by_cases h2 : g a < g (a + 1)
    · have e1 : (a + 1 < n ∧ g a < g (a + 1)) := ⟨h, h2⟩
      have e2 : ¬ g (a + 1) < g a := fun q => Int32.lt_irrefl (Int32.lt_trans h2 q)
      simp only [e1, e2, if_true, if_false, and_self]
    · have e1 : ¬ (a + 1 < n ∧ g a < g (a + 1)) := fun q => h2 q.2
      simp only [e1, if_false]
      funext j
      unfold upd
      by_cases hj : j = a + 1
      · subst hj
        rw [if_pos rfl]
        by_cases h3 : g (a + 1) < g a
        · rw [if_pos h3]
        · rw [if_neg h3]
          exact Int32.le_antisymm (Int32.not_lt.mp h3) (Int32.not_lt.mp h2)
      · rw [if_neg hj]
  · rw [if_neg h, if_neg (fun q => h q.1)]
set_option maxHeartbeats 4000000 in
set_option maxRecDepth 100000 in
theorem lp_Mo_findNew {G : mx_G} {d : Nat} {S : List mx_Sh} {D : mx_Mem} {cnt : Nat} {x : Int32} (hS : SM S) (hc : D 80 3 = nI cnt) (hle : cnt ≤ 30) : ∀ n i : Nat, i ≤ cnt → cnt - i = n → (∀ j, j < i → ¬ D 83 j = x) → EV G d m_Mo_findNew 2 [some (.ref 80), some (.int x), some (.int (nI i))] [] S D S (fun rv D' => D' = D ∧ ∃ r, rv = some (.int r) ∧ Fnd (D 83) x cnt r) := by
  obtain ⟨hm0, hm1, hm2, hm3, hm4, hm5, hm6, hm7, hm8, hm9, hm10, hm11, hm12⟩ := id hS
  intro n
  induction n with
  | zero =>
    intro i h1 h2 h3
    refine EV.iload_n d_Mo_findNew_2 rfl ?_
    refine EV.aload_n d_Mo_findNew_3 rfl ?_
    refine EV.getI fl_Mo_70 d_Mo_findNew_4 (by first | assumption | rfl) rfl ?_
    refine EV.icmp_geN (tgt := 28) d_Mo_findNew_7 (by decide) rfl hc (by omega) (by omega) (fun h7 => ?_) (fun h7 => ?_)
    · refine EV.iconst (v := (-1)) d_Mo_findNew_28 (by decide) ?_
      exact EV.ireturn d_Mo_findNew_29 ⟨_, rfl, rfl⟩ ⟨rfl, _, rfl, Or.inr ⟨fun j hj => h3 j (by omega), rfl⟩⟩
    · exfalso
      omega
  | succ n ih =>
    intro i h1 h2 h3
    refine EV.iload_n d_Mo_findNew_2 rfl ?_
    refine EV.aload_n d_Mo_findNew_3 rfl ?_
    refine EV.getI fl_Mo_70 d_Mo_findNew_4 (by first | assumption | rfl) rfl ?_
    refine EV.icmp_geN (tgt := 28) d_Mo_findNew_7 (by decide) rfl hc (by omega) (by omega) (fun h7 => ?_) (fun h7 => ?_)
    · exfalso
      omega
    · refine EV.aload_n d_Mo_findNew_10 rfl ?_
      refine EV.getR fl_Mo_16 d_Mo_findNew_11 (by first | assumption | rfl) rfl ?_
      refine EV.iload_n d_Mo_findNew_14 rfl ?_
      refine EV.ialdN d_Mo_findNew_15 (by first | assumption | rfl) rfl rfl (by omega) (by first | decide | omega) ?_
      refine EV.iload_n d_Mo_findNew_16 rfl ?_
      refine EV.icmp_ne (tgt := 22) d_Mo_findNew_17 (by decide) (fun h17 => ?_) (fun h17 => ?_)
      · refine EV.iincN d_Mo_findNew_22 rfl (by decide) ?_
        refine EV.goto (tgt := 2) d_Mo_findNew_25 (by decide) ?_
        exact ih (i + 1) (by omega) (by omega) (fun j hj => by
          rcases Nat.lt_or_ge j i with q | q
          · exact h3 j q
          · rw [show j = i by omega]; exact h17)
      · refine EV.iload_n d_Mo_findNew_20 rfl ?_
        exact EV.ireturn d_Mo_findNew_21 ⟨_, rfl, rfl⟩ ⟨rfl, _, rfl, Or.inl ⟨i, h7, h17, h3, rfl⟩⟩
set_option maxHeartbeats 4000000 in
set_option maxRecDepth 100000 in
theorem sp_Mo_findNew {G : mx_G} {d : Nat} {S : List mx_Sh} {D : mx_Mem} {cnt : Nat} {x : Int32} (hS : SM S) (hc : D 80 3 = nI cnt) (hle : cnt ≤ 30) : EV G d m_Mo_findNew 0 (mx_lc0 m_Mo_findNew [.ref 80, .int x]) [] S D S (fun rv D' => D' = D ∧ ∃ r, rv = some (.int r) ∧ Fnd (D 83) x cnt r) := by
  show EV _ _ _ _ [some (.ref 80), some (.int x), none] [] _ _ _ _
  refine EV.iconst (v := nI 0) d_Mo_findNew_0 (by decide) ?_
  refine EV.istore_n d_Mo_findNew_1 (by decide) ?_
  exact lp_Mo_findNew hS hc hle cnt 0 (by omega) (by omega) (fun j hj => absurd hj (by omega))
set_option maxHeartbeats 4000000 in
set_option maxRecDepth 100000 in
theorem lp_Mo_find {G : mx_G} {d : Nat} {S : List mx_Sh} {D : mx_Mem} {cnt : Nat} {x : Int32} (hS : SM S) (hc : D 80 0 = nI cnt) (hle : cnt ≤ 30) : ∀ n i : Nat, i ≤ cnt → cnt - i = n → (∀ j, j < i → ¬ D 81 j = x) → EV G d m_Mo_find 2 [some (.ref 80), some (.int x), some (.int (nI i))] [] S D S (fun rv D' => D' = D ∧ ∃ r, rv = some (.int r) ∧ Fnd (D 81) x cnt r) := by
  obtain ⟨hm0, hm1, hm2, hm3, hm4, hm5, hm6, hm7, hm8, hm9, hm10, hm11, hm12⟩ := id hS
  intro n
  induction n with
  | zero =>
    intro i h1 h2 h3
    refine EV.iload_n d_Mo_find_2 rfl ?_
    refine EV.aload_n d_Mo_find_3 rfl ?_
    refine EV.getI fl_Mo_50 d_Mo_find_4 (by first | assumption | rfl) rfl ?_
    refine EV.icmp_geN (tgt := 28) d_Mo_find_7 (by decide) rfl hc (by omega) (by omega) (fun h7 => ?_) (fun h7 => ?_)
    · refine EV.iconst (v := (-1)) d_Mo_find_28 (by decide) ?_
      exact EV.ireturn d_Mo_find_29 ⟨_, rfl, rfl⟩ ⟨rfl, _, rfl, Or.inr ⟨fun j hj => h3 j (by omega), rfl⟩⟩
    · exfalso
      omega
  | succ n ih =>
    intro i h1 h2 h3
    refine EV.iload_n d_Mo_find_2 rfl ?_
    refine EV.aload_n d_Mo_find_3 rfl ?_
    refine EV.getI fl_Mo_50 d_Mo_find_4 (by first | assumption | rfl) rfl ?_
    refine EV.icmp_geN (tgt := 28) d_Mo_find_7 (by decide) rfl hc (by omega) (by omega) (fun h7 => ?_) (fun h7 => ?_)
    · exfalso
      omega
    · refine EV.aload_n d_Mo_find_10 rfl ?_
      refine EV.getR fl_Mo_7 d_Mo_find_11 (by first | assumption | rfl) rfl ?_
      refine EV.iload_n d_Mo_find_14 rfl ?_
      refine EV.ialdN d_Mo_find_15 (by first | assumption | rfl) rfl rfl (by omega) (by first | decide | omega) ?_
      refine EV.iload_n d_Mo_find_16 rfl ?_
      refine EV.icmp_ne (tgt := 22) d_Mo_find_17 (by decide) (fun h17 => ?_) (fun h17 => ?_)
      · refine EV.iincN d_Mo_find_22 rfl (by decide) ?_
        refine EV.goto (tgt := 2) d_Mo_find_25 (by decide) ?_
        exact ih (i + 1) (by omega) (by omega) (fun j hj => by
          rcases Nat.lt_or_ge j i with q | q
          · exact h3 j q
          · rw [show j = i by omega]; exact h17)
      · refine EV.iload_n d_Mo_find_20 rfl ?_
        exact EV.ireturn d_Mo_find_21 ⟨_, rfl, rfl⟩ ⟨rfl, _, rfl, Or.inl ⟨i, h7, h17, h3, rfl⟩⟩
set_option maxHeartbeats 4000000 in
set_option maxRecDepth 100000 in
theorem sp_Mo_find {G : mx_G} {d : Nat} {S : List mx_Sh} {D : mx_Mem} {cnt : Nat} {x : Int32} (hS : SM S) (hc : D 80 0 = nI cnt) (hle : cnt ≤ 30) : EV G d m_Mo_find 0 (mx_lc0 m_Mo_find [.ref 80, .int x]) [] S D S (fun rv D' => D' = D ∧ ∃ r, rv = some (.int r) ∧ Fnd (D 81) x cnt r) := by
  show EV _ _ _ _ [some (.ref 80), some (.int x), none] [] _ _ _ _
  refine EV.iconst (v := nI 0) d_Mo_find_0 (by decide) ?_
  refine EV.istore_n d_Mo_find_1 (by decide) ?_
  exact lp_Mo_find hS hc hle cnt 0 (by omega) (by omega) (fun j hj => absurd hj (by omega))
set_option maxHeartbeats 4000000 in
set_option maxRecDepth 100000 in
theorem lp_Mo_takeOut {G : mx_G} {d : Nat} {S : List mx_Sh} {D0 : mx_Mem} {cnt a : Nat} {g : Nat → Int32} (hS : SM S) (hc : D0 80 3 = nI cnt) (hle : cnt ≤ 30) : ∀ (n i : Nat) (D : mx_Mem), i + 1 ≤ cnt → a ≤ i → cnt - (i + 1) = n → D 83 = fx_dl (D0 83) a (i + 1) → D 84 = fx_dl g a (i + 1) → (∀ k, ¬ k = 83 → ¬ k = 84 → D k = D0 k) → EV G d m_Mo_takeOut 43 [some (.ref 80), some (.int (nI a)), some (.int (nI i))] [] S D S (fun rv D' => rv = none ∧ D' 83 = fx_dl (D0 83) a cnt ∧ D' 84 = fx_dl g a cnt ∧ D' 80 = upd (D0 80) 3 (nI (cnt - 1)) ∧ ∀ k, ¬ k = 80 → ¬ k = 83 → ¬ k = 84 → D' k = D0 k) := by
  obtain ⟨hm0, hm1, hm2, hm3, hm4, hm5, hm6, hm7, hm8, hm9, hm10, hm11, hm12⟩ := id hS
  intro n
  induction n with
  | zero =>
    intro i D h1 h2 h3 hf hg ho
    have hc2 : D 80 3 = nI cnt := by rw [ho 80 (by omega) (by omega)]; exact hc
    refine EV.iload_n d_Mo_takeOut_43 rfl ?_
    refine EV.iconst (v := nI 1) d_Mo_takeOut_44 (by decide) ?_
    refine EV.iadd d_Mo_takeOut_45 ?_
    refine EV.aload_n d_Mo_takeOut_46 rfl ?_
    refine EV.getI fl_Mo_70 d_Mo_takeOut_47 (by first | assumption | rfl) rfl ?_
    refine EV.icmp_geN (tgt := 87) d_Mo_takeOut_50 (by decide) (nI_1 i) hc2 (by omega) (by omega) (fun h50 => ?_) (fun h50 => ?_)
    · refine EV.aload_n d_Mo_takeOut_87 rfl ?_
      refine EV.dup d_Mo_takeOut_88 rfl ?_
      refine EV.getI fl_Mo_70 d_Mo_takeOut_89 (by first | assumption | rfl) rfl ?_
      refine EV.iconst (v := nI 1) d_Mo_takeOut_92 (by decide) ?_
      refine EV.isub d_Mo_takeOut_93 ?_
      have ep : i + 1 = cnt := by omega
      rw [ep] at hf hg
      refine EV.top (y := nI (cnt - 1)) (by rw [hc2]; exact pk_sub (by omega)) ?_
      refine EV.putI fl_Mo_70 d_Mo_takeOut_94 (by first | assumption | rfl) rfl rfl rfl ?_
      exact EV.return_ d_Mo_takeOut_97 rfl ⟨rfl, by simp [mx_w, va_up, hf], by simp [mx_w, va_up, hg], by simp [mx_w, va_up, ho 80 (by omega) (by omega)], fun k k1 k2 k3 => by simp [mx_w, va_up, k1, ho k k2 k3]⟩
    · exfalso
      omega
  | succ n ih =>
    intro i D h1 h2 h3 hf hg ho
    have hc2 : D 80 3 = nI cnt := by rw [ho 80 (by omega) (by omega)]; exact hc
    refine EV.iload_n d_Mo_takeOut_43 rfl ?_
    refine EV.iconst (v := nI 1) d_Mo_takeOut_44 (by decide) ?_
    refine EV.iadd d_Mo_takeOut_45 ?_
    refine EV.aload_n d_Mo_takeOut_46 rfl ?_
    refine EV.getI fl_Mo_70 d_Mo_takeOut_47 (by first | assumption | rfl) rfl ?_
    refine EV.icmp_geN (tgt := 87) d_Mo_takeOut_50 (by decide) (nI_1 i) hc2 (by omega) (by omega) (fun h50 => ?_) (fun h50 => ?_)
    · exfalso
      omega
    · refine EV.aload_n d_Mo_takeOut_53 rfl ?_
      refine EV.getR fl_Mo_16 d_Mo_takeOut_54 (by first | assumption | rfl) rfl ?_
      refine EV.iload_n d_Mo_takeOut_57 rfl ?_
      refine EV.aload_n d_Mo_takeOut_58 rfl ?_
      refine EV.getR fl_Mo_16 d_Mo_takeOut_59 (by first | assumption | rfl) rfl ?_
      refine EV.iload_n d_Mo_takeOut_62 rfl ?_
      refine EV.iconst (v := nI 1) d_Mo_takeOut_63 (by decide) ?_
      refine EV.iadd d_Mo_takeOut_64 ?_
      refine EV.ialdN d_Mo_takeOut_65 (by first | assumption | rfl) rfl (nI_1 i) (by omega) (by first | decide | omega) ?_
      refine EV.iastN d_Mo_takeOut_66 (by first | assumption | rfl) rfl rfl (by omega) (by first | decide | omega) ?_
      refine EV.aload_n d_Mo_takeOut_67 rfl ?_
      refine EV.getR fl_Mo_19 d_Mo_takeOut_68 (by first | assumption | rfl) rfl ?_
      refine EV.iload_n d_Mo_takeOut_71 rfl ?_
      refine EV.aload_n d_Mo_takeOut_72 rfl ?_
      refine EV.getR fl_Mo_19 d_Mo_takeOut_73 (by first | assumption | rfl) rfl ?_
      refine EV.iload_n d_Mo_takeOut_76 rfl ?_
      refine EV.iconst (v := nI 1) d_Mo_takeOut_77 (by decide) ?_
      refine EV.iadd d_Mo_takeOut_78 ?_
      refine EV.ialdN d_Mo_takeOut_79 (by first | assumption | rfl) rfl (nI_1 i) (by omega) (by first | decide | omega) ?_
      refine EV.iastN d_Mo_takeOut_80 (by first | assumption | rfl) rfl rfl (by omega) (by first | decide | omega) ?_
      refine EV.iincN d_Mo_takeOut_81 rfl (by decide) ?_
      refine EV.goto (tgt := 43) d_Mo_takeOut_84 (by decide) ?_
      refine ih (i + 1) _ (by omega) (by omega) (by omega) ?_ ?_ ?_
      · rw [mx_w_ne _ _ _ (by omega), mx_w_eq, hf]; exact fx_dl_s _ (by omega)
      · rw [mx_w_eq, mx_w_ne _ _ _ (by omega), hg]; exact fx_dl_s _ (by omega)
      · intro k k1 k2; rw [mx_w_ne _ _ _ k2, mx_w_ne _ _ _ k1]; exact ho k k1 k2
set_option maxHeartbeats 4000000 in
set_option maxRecDepth 100000 in
theorem sp_Mo_takeOut {G : mx_G} {d : Nat} {S : List mx_Sh} {D0 : mx_Mem} {cnt a : Nat} (hS : SM S) (hc : D0 80 3 = nI cnt) (hle : cnt ≤ 30) (ha : a < cnt) : EV G d m_Mo_takeOut 0 (mx_lc0 m_Mo_takeOut [.ref 80, .int (nI a)]) [] S D0 S (fun rv D' => rv = none ∧ D' 83 = fx_dl (D0 83) a cnt ∧ D' 84 = fx_dl (fx_mn (D0 84) a cnt) a cnt ∧ D' 80 = upd (D0 80) 3 (nI (cnt - 1)) ∧ ∀ k, ¬ k = 80 → ¬ k = 83 → ¬ k = 84 → D' k = D0 k) := by
  obtain ⟨hm0, hm1, hm2, hm3, hm4, hm5, hm6, hm7, hm8, hm9, hm10, hm11, hm12⟩ := id hS
  show EV _ _ _ _ [some (.ref 80), some (.int (nI a)), none] [] _ _ _ _
  refine EV.iload_n d_Mo_takeOut_0 rfl ?_
  refine EV.iconst (v := nI 1) d_Mo_takeOut_1 (by decide) ?_
  refine EV.iadd d_Mo_takeOut_2 ?_
  refine EV.aload_n d_Mo_takeOut_3 rfl ?_
  refine EV.getI fl_Mo_70 d_Mo_takeOut_4 (by first | assumption | rfl) rfl ?_
  refine EV.icmp_geN (tgt := 41) d_Mo_takeOut_7 (by decide) (nI_1 a) hc (by omega) (by omega) (fun h7 => ?_) (fun h7 => ?_)
  · rw [fx_mn_alt, if_neg (by omega)]
    refine EV.iload_n d_Mo_takeOut_41 rfl ?_
    refine EV.istore_n d_Mo_takeOut_42 (by decide) ?_
    refine lp_Mo_takeOut hS hc hle (cnt - (a + 1)) a _ (by omega) (by omega) rfl ?_ ?_ ?_
    · simp [mx_w, va_up, fx_dl_0]
    · simp [mx_w, va_up, fx_dl_0]
    · intro k k1 k2; simp [mx_w, va_up, k1, k2]
  · refine EV.aload_n d_Mo_takeOut_10 rfl ?_
    refine EV.getR fl_Mo_19 d_Mo_takeOut_11 (by first | assumption | rfl) rfl ?_
    refine EV.iload_n d_Mo_takeOut_14 rfl ?_
    refine EV.ialdN d_Mo_takeOut_15 (by first | assumption | rfl) rfl rfl (by omega) (by first | decide | omega) ?_
    refine EV.aload_n d_Mo_takeOut_16 rfl ?_
    refine EV.getR fl_Mo_19 d_Mo_takeOut_17 (by first | assumption | rfl) rfl ?_
    refine EV.iload_n d_Mo_takeOut_20 rfl ?_
    refine EV.iconst (v := nI 1) d_Mo_takeOut_21 (by decide) ?_
    refine EV.iadd d_Mo_takeOut_22 ?_
    refine EV.ialdN d_Mo_takeOut_23 (by first | assumption | rfl) rfl (nI_1 a) (by omega) (by first | decide | omega) ?_
    refine EV.icmp_ge (tgt := 41) d_Mo_takeOut_24 (by decide) (fun h24 => ?_) (fun h24 => ?_)
    · rw [fx_mn_alt, if_neg (fun q => Int32.not_lt.mpr h24 q.2)]
      refine EV.iload_n d_Mo_takeOut_41 rfl ?_
      refine EV.istore_n d_Mo_takeOut_42 (by decide) ?_
      refine lp_Mo_takeOut hS hc hle (cnt - (a + 1)) a _ (by omega) (by omega) rfl ?_ ?_ ?_
      · simp [mx_w, va_up, fx_dl_0]
      · simp [mx_w, va_up, fx_dl_0]
      · intro k k1 k2; simp [mx_w, va_up, k1, k2]
    · rw [fx_mn_alt, if_pos ⟨h7, Int32.not_le.mp h24⟩]
      refine EV.aload_n d_Mo_takeOut_27 rfl ?_
      refine EV.getR fl_Mo_19 d_Mo_takeOut_28 (by first | assumption | rfl) rfl ?_
      refine EV.iload_n d_Mo_takeOut_31 rfl ?_
      refine EV.iconst (v := nI 1) d_Mo_takeOut_32 (by decide) ?_
      refine EV.iadd d_Mo_takeOut_33 ?_
      refine EV.aload_n d_Mo_takeOut_34 rfl ?_
      refine EV.getR fl_Mo_19 d_Mo_takeOut_35 (by first | assumption | rfl) rfl ?_
      refine EV.iload_n d_Mo_takeOut_38 rfl ?_
      refine EV.ialdN d_Mo_takeOut_39 (by first | assumption | rfl) rfl rfl (by omega) (by first | decide | omega) ?_
      refine EV.iastN d_Mo_takeOut_40 (by first | assumption | rfl) rfl (nI_1 a) (by omega) (by first | decide | omega) ?_
      refine EV.iload_n d_Mo_takeOut_41 rfl ?_
      refine EV.istore_n d_Mo_takeOut_42 (by decide) ?_
      refine lp_Mo_takeOut hS hc hle (cnt - (a + 1)) a _ (by omega) (by omega) rfl ?_ ?_ ?_
      · simp [mx_w, va_up, fx_dl_0]
      · simp [mx_w, va_up, fx_dl_0]
      · intro k k1 k2; simp [mx_w, va_up, k1, k2]
set_option maxHeartbeats 4000000 in
set_option maxRecDepth 100000 in
theorem lp_Mo_putIn2 {G : mx_G} {d : Nat} {S : List mx_Sh} {D0 : mx_Mem} {cnt p : Nat} {x y : Int32} {v3 : Value} (hS : SM S) (hc : D0 80 3 = nI cnt) (hle : cnt < 30) : ∀ (n i : Nat) (D : mx_Mem), i ≤ cnt → p ≤ i → i - p = n → D 83 = fx_sh (D0 83) i cnt → D 84 = fx_sh (D0 84) i cnt → (∀ k, ¬ k = 83 → ¬ k = 84 → D k = D0 k) → EV G d m_Mo_putIn 37 [some (.ref 80), some (.int x), some (.int y), some v3, some (.int (nI p)), some (.int (nI i))] [] S D S (fun rv D' => rv = none ∧ D' 83 = fx_ins (D0 83) p x cnt ∧ D' 84 = fx_ins (D0 84) p y cnt ∧ D' 80 = upd (D0 80) 3 (nI (cnt + 1)) ∧ ∀ k, ¬ k = 80 → ¬ k = 83 → ¬ k = 84 → D' k = D0 k) := by
  obtain ⟨hm0, hm1, hm2, hm3, hm4, hm5, hm6, hm7, hm8, hm9, hm10, hm11, hm12⟩ := id hS
  intro n
  induction n with
  | zero =>
    intro i D h1 h2 h3 hf hg ho
    refine EV.iload d_Mo_putIn_37 rfl ?_
    refine EV.iload d_Mo_putIn_39 rfl ?_
    refine EV.icmp_leN (tgt := 82) d_Mo_putIn_41 (by decide) rfl rfl (by omega) (by omega) (fun h41 => ?_) (fun h41 => ?_)
    · refine EV.aload_n d_Mo_putIn_82 rfl ?_
      refine EV.getR fl_Mo_16 d_Mo_putIn_83 (by first | assumption | rfl) rfl ?_
      refine EV.iload d_Mo_putIn_86 rfl ?_
      refine EV.iload_n d_Mo_putIn_88 rfl ?_
      refine EV.iastN d_Mo_putIn_89 (by first | assumption | rfl) rfl rfl (by omega) (by first | decide | omega) ?_
      refine EV.aload_n d_Mo_putIn_90 rfl ?_
      refine EV.getR fl_Mo_19 d_Mo_putIn_91 (by first | assumption | rfl) rfl ?_
      refine EV.iload d_Mo_putIn_94 rfl ?_
      refine EV.iload_n d_Mo_putIn_96 rfl ?_
      refine EV.iastN d_Mo_putIn_97 (by first | assumption | rfl) rfl rfl (by omega) (by first | decide | omega) ?_
      refine EV.aload_n d_Mo_putIn_98 rfl ?_
      refine EV.dup d_Mo_putIn_99 rfl ?_
      refine EV.getI fl_Mo_70 d_Mo_putIn_100 (by first | assumption | rfl) rfl ?_
      refine EV.iconst (v := nI 1) d_Mo_putIn_103 (by decide) ?_
      refine EV.iadd d_Mo_putIn_104 ?_
      have ep : i = p := by omega
      subst ep
      refine EV.top (y := nI (cnt + 1)) (by rw [mx_w_ne _ _ _ (by omega), mx_w_ne _ _ _ (by omega), ho 80 (by omega) (by omega), hc]; exact nI_1 cnt) ?_
      refine EV.putI fl_Mo_70 d_Mo_putIn_105 (by first | assumption | rfl) rfl rfl rfl ?_
      exact EV.return_ d_Mo_putIn_108 rfl ⟨rfl, by simp [mx_w, va_up, hf, fx_ins], by simp [mx_w, va_up, hg, fx_ins], by simp [mx_w, va_up, ho 80 (by omega) (by omega)], fun k k1 k2 k3 => by simp [mx_w, va_up, k1, k2, k3, ho k k2 k3]⟩
    · exfalso
      omega
  | succ n ih =>
    intro i D h1 h2 h3 hf hg ho
    obtain ⟨i, rfl⟩ : ∃ i', i = i' + 1 := ⟨i - 1, by omega⟩
    refine EV.iload d_Mo_putIn_37 rfl ?_
    refine EV.iload d_Mo_putIn_39 rfl ?_
    refine EV.icmp_leN (tgt := 82) d_Mo_putIn_41 (by decide) rfl rfl (by omega) (by omega) (fun h41 => ?_) (fun h41 => ?_)
    · exfalso
      omega
    · refine EV.aload_n d_Mo_putIn_44 rfl ?_
      refine EV.getR fl_Mo_16 d_Mo_putIn_45 (by first | assumption | rfl) rfl ?_
      refine EV.iload d_Mo_putIn_48 rfl ?_
      refine EV.aload_n d_Mo_putIn_50 rfl ?_
      refine EV.getR fl_Mo_16 d_Mo_putIn_51 (by first | assumption | rfl) rfl ?_
      refine EV.iload d_Mo_putIn_54 rfl ?_
      refine EV.iconst (v := nI 1) d_Mo_putIn_56 (by decide) ?_
      refine EV.isub d_Mo_putIn_57 ?_
      refine EV.ialdN d_Mo_putIn_58 (by first | assumption | rfl) rfl (show _ = nI i from nI_pred i) (by omega) (by first | decide | omega) ?_
      refine EV.iastN d_Mo_putIn_59 (by first | assumption | rfl) rfl rfl (by omega) (by first | decide | omega) ?_
      refine EV.aload_n d_Mo_putIn_60 rfl ?_
      refine EV.getR fl_Mo_19 d_Mo_putIn_61 (by first | assumption | rfl) rfl ?_
      refine EV.iload d_Mo_putIn_64 rfl ?_
      refine EV.aload_n d_Mo_putIn_66 rfl ?_
      refine EV.getR fl_Mo_19 d_Mo_putIn_67 (by first | assumption | rfl) rfl ?_
      refine EV.iload d_Mo_putIn_70 rfl ?_
      refine EV.iconst (v := nI 1) d_Mo_putIn_72 (by decide) ?_
      refine EV.isub d_Mo_putIn_73 ?_
      refine EV.ialdN d_Mo_putIn_74 (by first | assumption | rfl) rfl (show _ = nI i from nI_pred i) (by omega) (by first | decide | omega) ?_
      refine EV.iastN d_Mo_putIn_75 (by first | assumption | rfl) rfl rfl (by omega) (by first | decide | omega) ?_
      refine EV.iincM d_Mo_putIn_76 rfl (by decide) ?_
      refine EV.goto (tgt := 37) d_Mo_putIn_79 (by decide) ?_
      refine ih i _ (by omega) (by omega) (by omega) ?_ ?_ ?_
      · rw [mx_w_ne _ _ _ (by omega), mx_w_eq, hf]; exact fx_sh_s _ (by omega)
      · rw [mx_w_eq, mx_w_ne _ _ _ (by omega), hg]; exact fx_sh_s _ (by omega)
      · intro k k1 k2; rw [mx_w_ne _ _ _ k2, mx_w_ne _ _ _ k1]; exact ho k k1 k2
set_option maxHeartbeats 4000000 in
set_option maxRecDepth 100000 in
theorem lp_Mo_putIn {G : mx_G} {d : Nat} {S : List mx_Sh} {D0 : mx_Mem} {cnt a : Nat} {x y : Int32} (hS : SM S) (hc : D0 80 3 = nI cnt) (hle : cnt < 30) : ∀ (n i : Nat), i ≤ cnt → a + 1 ≤ i → cnt - i = n → (∀ j, a + 1 ≤ j → j < i → y < D0 84 j) → EV G d m_Mo_putIn 5 [some (.ref 80), some (.int x), some (.int y), some (.int (nI a)), some (.int (nI i)), none] [] S D0 S (fun rv D' => rv = none ∧ ∃ p, Plc (D0 84) y (a + 1) cnt p ∧ D' 83 = fx_ins (D0 83) p x cnt ∧ D' 84 = fx_ins (D0 84) p y cnt ∧ D' 80 = upd (D0 80) 3 (nI (cnt + 1)) ∧ ∀ k, ¬ k = 80 → ¬ k = 83 → ¬ k = 84 → D' k = D0 k) := by
  obtain ⟨hm0, hm1, hm2, hm3, hm4, hm5, hm6, hm7, hm8, hm9, hm10, hm11, hm12⟩ := id hS
  intro n
  induction n with
  | zero =>
    intro i h1 h2 h3 h4
    refine EV.iload d_Mo_putIn_5 rfl ?_
    refine EV.aload_n d_Mo_putIn_7 rfl ?_
    refine EV.getI fl_Mo_70 d_Mo_putIn_8 (by first | assumption | rfl) rfl ?_
    refine EV.icmp_geN (tgt := 31) d_Mo_putIn_11 (by decide) rfl hc (by omega) (by omega) (fun h11 => ?_) (fun h11 => ?_)
    · refine EV.aload_n d_Mo_putIn_31 rfl ?_
      refine EV.getI fl_Mo_70 d_Mo_putIn_32 (by first | assumption | rfl) rfl ?_
      refine EV.top hc ?_
      refine EV.istore d_Mo_putIn_35 (by decide) ?_
      exact EV.post (fun rv D' h => ⟨h.1, i, ⟨h2, h1, h4, fun h => absurd h (by omega)⟩, h.2⟩) (lp_Mo_putIn2 hS hc hle (cnt - i) cnt D0 (by omega) (by omega) rfl (fx_sh_0 _ _).symm (fx_sh_0 _ _).symm (fun _ _ _ => rfl))
    · exfalso
      omega
  | succ n ih =>
    intro i h1 h2 h3 h4
    refine EV.iload d_Mo_putIn_5 rfl ?_
    refine EV.aload_n d_Mo_putIn_7 rfl ?_
    refine EV.getI fl_Mo_70 d_Mo_putIn_8 (by first | assumption | rfl) rfl ?_
    refine EV.icmp_geN (tgt := 31) d_Mo_putIn_11 (by decide) rfl hc (by omega) (by omega) (fun h11 => ?_) (fun h11 => ?_)
    · exfalso
      omega
    · refine EV.aload_n d_Mo_putIn_14 rfl ?_
      refine EV.getR fl_Mo_19 d_Mo_putIn_15 (by first | assumption | rfl) rfl ?_
      refine EV.iload d_Mo_putIn_18 rfl ?_
      refine EV.ialdN d_Mo_putIn_20 (by first | assumption | rfl) rfl rfl (by omega) (by first | decide | omega) ?_
      refine EV.iload_n d_Mo_putIn_21 rfl ?_
      refine EV.icmp_le (tgt := 31) d_Mo_putIn_22 (by decide) (fun h22 => ?_) (fun h22 => ?_)
      · refine EV.aload_n d_Mo_putIn_31 rfl ?_
        refine EV.getI fl_Mo_70 d_Mo_putIn_32 (by first | assumption | rfl) rfl ?_
        refine EV.top hc ?_
        refine EV.istore d_Mo_putIn_35 (by decide) ?_
        exact EV.post (fun rv D' h => ⟨h.1, i, ⟨h2, h1, h4, fun _ h => absurd h (Int32.not_lt.mpr h22)⟩, h.2⟩) (lp_Mo_putIn2 hS hc hle (cnt - i) cnt D0 (by omega) (by omega) rfl (fx_sh_0 _ _).symm (fx_sh_0 _ _).symm (fun _ _ _ => rfl))
      · refine EV.iincN d_Mo_putIn_25 rfl (by decide) ?_
        refine EV.goto (tgt := 5) d_Mo_putIn_28 (by decide) ?_
        exact ih (i + 1) (by omega) (by omega) (by omega) (fun j j1 j2 => by
          rcases Nat.lt_or_ge j i with q | q
          · exact h4 j j1 q
          · rw [show j = i by omega]; exact Int32.not_le.mp h22)
set_option maxHeartbeats 4000000 in
set_option maxRecDepth 100000 in
theorem sp_Mo_putIn {G : mx_G} {d : Nat} {S : List mx_Sh} {D0 : mx_Mem} {cnt a : Nat} {x y : Int32} (hS : SM S) (hc : D0 80 3 = nI cnt) (hle : cnt < 30) (ha : a < cnt) : EV G d m_Mo_putIn 0 (mx_lc0 m_Mo_putIn [.ref 80, .int x, .int y, .int (nI a)]) [] S D0 S (fun rv D' => rv = none ∧ ∃ p, Plc (D0 84) y (a + 1) cnt p ∧ D' 83 = fx_ins (D0 83) p x cnt ∧ D' 84 = fx_ins (D0 84) p y cnt ∧ D' 80 = upd (D0 80) 3 (nI (cnt + 1)) ∧ ∀ k, ¬ k = 80 → ¬ k = 83 → ¬ k = 84 → D' k = D0 k) := by
  show EV _ _ _ _ [some (.ref 80), some (.int x), some (.int y), some (.int (nI a)), none, none] [] _ _ _ _
  refine EV.iload_n d_Mo_putIn_0 rfl ?_
  refine EV.iconst (v := nI 1) d_Mo_putIn_1 (by decide) ?_
  refine EV.iadd d_Mo_putIn_2 ?_
  refine EV.top (nI_1 a) ?_
  refine EV.istore d_Mo_putIn_3 (by decide) ?_
  exact lp_Mo_putIn hS hc hle (cnt - (a + 1)) (a + 1) (by omega) (by omega) rfl (fun j j1 j2 => absurd j1 (by omega))
def MwP (D0 : mx_Mem) (ok : ps_T → Int32) (res : Int32 ⊕ ps_T) : Option Value → mx_Mem → Prop := fun rv D' => ((∀ k, ¬ k = 80 → ¬ k = 83 → ¬ k = 84 → D' k = D0 k) ∧ ∀ j, ¬ j = 3 → D' 80 j = D0 80 j) ∧ match res with
  | .inl c => rv = some (.int c)
  | .inr tb' => rv = some (.int (ok tb')) ∧ D' 80 3 = nI tb'.length ∧ TBf 128 (D' 83) (D' 84) tb'
set_option maxHeartbeats 4000000 in
set_option maxRecDepth 100000 in
theorem lp_Mo_relate41 {G : mx_G} {d : Nat} {S : List mx_Sh} {D0 : mx_Mem} {y : Nat} {tb1 : ps_T} {s a : List Nat} {v4 v5 : Option Value} (hS : SM S) (hc : D0 80 3 = nI tb1.length) (hB : TBf 128 (D0 83) (D0 84) tb1) (hok : ps_ok tb1) (hs : ps_so s) (ha : ps_so a) (hy : 1 ≤ y ∧ y ≤ 4) (hha : ps_has tb1 a) (h33 : tb1.length < 30) : EV G (d + 1) m_Mo_relate 41 [some (.ref 80), some (.int (nI (ps_enc 128 a))), some (.int (nI y)), some (.int (nI (ps_enc 128 s))), v4, v5] [] S D0 S (MwP D0 (fun _ => nI 0) (ps_mv2 tb1 s a y)) := by
  obtain ⟨hm0, hm1, hm2, hm3, hm4, hm5, hm6, hm7, hm8, hm9, hm10, hm11, hm12⟩ := id hS
  have hle := hok.2.1
  have hso : ∀ e ∈ tb1, ps_so e.1 := fun e he => (hok.1 e he).1
  obtain ⟨j, hj⟩ := ps_has_idx hha
  have hjl := ps_idx_lt hj
  refine EV.aload_n d_Mo_relate_41 rfl ?_
  refine EV.iload_n d_Mo_relate_42 rfl ?_
  refine EV.V1 cv_Mo_73 d_Mo_relate_43 (by first | assumption | rfl) (sp_Mo_findNew hS hc hle) ⟨Nat.le_refl _, Nat.le_refl _⟩ rfl rfl (Nat.le_of_ble_eq_true rfl) (fun rv D1 hp => ?_)
  obtain ⟨hD, r, rfl, hF⟩ := hp
  obtain rfl := hD.symm
  have hr : r = nI j := by
    rcases Fnd_idx (Or.inl rfl) hso hB ha hF with ⟨i, h1, -, h2⟩ | ⟨h1, -⟩
    · rw [hj] at h1; cases h1; exact h2
    · rw [hj] at h1; cases h1
  subst hr
  refine EV.istore d_Mo_relate_46 (by decide) ?_
  refine EV.aload_n d_Mo_relate_48 rfl ?_
  refine EV.iload_n d_Mo_relate_49 rfl ?_
  refine EV.iload_n d_Mo_relate_50 rfl ?_
  refine EV.iload d_Mo_relate_51 rfl ?_
  refine EV.V3 cv_Mo_81 d_Mo_relate_53 (by first | assumption | rfl) (sp_Mo_putIn hS hc h33 hjl) ⟨Nat.le_refl _, Nat.le_refl _⟩ rfl rfl (Nat.le_of_ble_eq_true rfl) (fun rv D1 hp => ?_)
  obtain ⟨rfl, p, hpl, q1, q2, q3, q4⟩ := hp
  refine EV.iconst (v := nI 0) d_Mo_relate_56 (by decide) ?_
  have hpe := Plc_pl hok hB (by omega) hpl
  have hple := hpl.2.1
  have hlen : (tb1.insertIdx p (s, y)).length = tb1.length + 1 := List.length_insertIdx_of_le_length hple _
  exact EV.ireturn d_Mo_relate_57 ⟨_, rfl, rfl⟩ ⟨⟨q4, fun j hj => by rw [q3]; simp [upd, hj]⟩, by
      unfold ps_mv2
      rw [if_neg (by omega), hj]
      refine ⟨rfl, ?_, ?_⟩
      · rw [q3, ← hpe, hlen]; simp [upd]
      · rw [q1, q2, ← hpe]; exact TBf_in hB hple⟩
set_option maxHeartbeats 4000000 in
set_option maxRecDepth 100000 in
theorem sp_Mo_relate {G : mx_G} {d : Nat} {S : List mx_Sh} {D0 : mx_Mem} {y : Nat} {tb : ps_T} {s a : List Nat} (hS : SM S) (hc : D0 80 3 = nI tb.length) (hB : TBf 128 (D0 83) (D0 84) tb) (hok : ps_ok tb) (hs : ps_so s) (ha : ps_so a) (hy : 1 ≤ y ∧ y ≤ 4) (hha : ps_has tb a) : EV G (d + 1) m_Mo_relate 0 (mx_lc0 m_Mo_relate [.ref 80, .int (nI (ps_enc 128 a)), .int (nI y), .int (nI (ps_enc 128 s))]) [] S D0 S (MwP D0 (fun _ => nI 0) (ps_move tb s a y)) := by
  obtain ⟨hm0, hm1, hm2, hm3, hm4, hm5, hm6, hm7, hm8, hm9, hm10, hm11, hm12⟩ := id hS
  have hle := hok.2.1
  have hso : ∀ e ∈ tb, ps_so e.1 := fun e he => (hok.1 e he).1
  have hrm := ps_rm_ok (s := s) hok
  show EV _ _ _ _ [some (.ref 80), some (.int (nI (ps_enc 128 a))), some (.int (nI y)), some (.int (nI (ps_enc 128 s))), none, none] [] _ _ _ _
  refine EV.iload_n d_Mo_relate_0 rfl ?_
  refine EV.iload_n d_Mo_relate_1 rfl ?_
  refine EV.icmp_ne (tgt := 8) d_Mo_relate_2 (by decide) (fun h2 => ?_) (fun h2 => ?_)
  · have hne : ¬ s = a := fun q => h2 (by rw [q])
    have hmv : ps_move tb s a y = ps_mv2 (ps_rm tb s) s a y := by unfold ps_move; rw [if_neg hne]
    rw [hmv]
    have hha2 := hrm.2.2 a (fun q => hne q.symm) hha
    refine EV.aload_n d_Mo_relate_8 rfl ?_
    refine EV.iload_n d_Mo_relate_9 rfl ?_
    refine EV.V1 cv_Mo_73 d_Mo_relate_10 (by first | assumption | rfl) (sp_Mo_findNew hS hc hle) ⟨Nat.le_refl _, Nat.le_refl _⟩ rfl rfl (Nat.le_of_ble_eq_true rfl) (fun rv D1 hp => ?_)
    obtain ⟨hD, r, rfl, hF⟩ := hp
    obtain rfl := hD.symm
    rcases Fnd_idx (Or.inl rfl) hso hB hs hF with ⟨i, hi, hil, rfl⟩ | ⟨hi, rfl⟩
    · refine EV.istore d_Mo_relate_13 (by decide) ?_
      refine EV.iload d_Mo_relate_15 rfl ?_
      refine EV.if_ltN (tgt := 29) d_Mo_relate_17 rfl (by omega) (by decide) ?_
      refine EV.aload_n d_Mo_relate_20 rfl ?_
      refine EV.iload d_Mo_relate_21 rfl ?_
      refine EV.V1 cv_Mo_77 d_Mo_relate_23 (by first | assumption | rfl) (sp_Mo_takeOut hS hc hle hil) ⟨Nat.le_refl _, Nat.le_refl _⟩ rfl rfl (Nat.le_of_ble_eq_true rfl) (fun rv D1 hp => ?_)
      obtain ⟨rfl, q1, q2, q3, q4⟩ := hp
      refine EV.goto (tgt := 41) d_Mo_relate_26 (by decide) ?_
      have hrme : ps_rm tb s = ps_out tb i := by unfold ps_rm; rw [hi]
      refine EV.post (fun rv D' h => ⟨⟨fun k k1 k2 k3 => (h.1.1 k k1 k2 k3).trans (q4 k k1 k2 k3), fun j hj => (h.1.2 j hj).trans (by rw [q3]; simp [upd, hj])⟩, h.2⟩) (lp_Mo_relate41 (tb1 := ps_rm tb s) hS ?_ ?_ hrm.1 hs ha hy hha2 ?_)
      · rw [q3, hrme, ps_out_len hil]; simp [upd]
      · rw [q1, q2, hrme]; exact TBf_out hok hB hil
      · rw [hrme, ps_out_len hil]; omega
    · have hrme : ps_rm tb s = tb := by unfold ps_rm; rw [hi]
      rw [hrme] at hha2 ⊢
      refine EV.istore d_Mo_relate_13 (by decide) ?_
      refine EV.iload d_Mo_relate_15 rfl ?_
      refine EV.if_lt (tgt := 29) d_Mo_relate_17 (by decide) (fun _ => ?_) (fun h => absurd (by decide) h)
      refine EV.aload_n d_Mo_relate_29 rfl ?_
      refine EV.getI fl_Mo_70 d_Mo_relate_30 (by first | assumption | rfl) rfl ?_
      refine EV.bipush (v := nI 30) d_Mo_relate_33 (by decide) ?_
      refine EV.icmp_neN (tgt := 41) d_Mo_relate_35 (by decide) hc rfl (by omega) (by omega) (fun h35 => ?_) (fun h35 => ?_)
      · exact lp_Mo_relate41 hS hc hB hok hs ha hy hha2 (by omega)
      · refine EV.bipush (v := (-102)) d_Mo_relate_38 (by decide) ?_
        exact EV.ireturn d_Mo_relate_40 ⟨_, rfl, rfl⟩ ⟨⟨fun _ _ _ _ => rfl, fun _ _ => rfl⟩, by unfold ps_mv2; rw [if_pos (by omega)]⟩
  · have hne : s = a := (ps_nI_eq (Or.inl rfl) hs ha).mp h2
    refine EV.bipush (v := (-101)) d_Mo_relate_5 (by decide) ?_
    exact EV.ireturn d_Mo_relate_7 ⟨_, rfl, rfl⟩ ⟨⟨fun _ _ _ _ => rfl, fun _ _ => rfl⟩, by unfold ps_move; rw [if_pos hne]⟩
