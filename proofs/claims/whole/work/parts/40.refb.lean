theorem ks_at {σ : sg} {i : Nat} {e : Nat × List Nat} (h : σ.2.2.2.1[i]? = some e) : (sg_ks σ)[i]? = some (sg_k σ e.2) := by unfold sg_ks; rw [List.getElem?_map, h]; rfl
theorem ks_len (σ : sg) : (sg_ks σ).length = σ.2.2.2.1.length := by unfold sg_ks; simp
theorem ks_take {σ : sg} {i : Nat} {e : Nat × List Nat} (h : σ.2.2.2.1[i]? = some e) : (sg_ks σ).take (i + 1) = (sg_ks σ).take i ++ [sg_k σ e.2] := by rw [List.take_add_one, ks_at h]; rfl
theorem ks_kz (σ : sg) : ∀ y ∈ sg_ks σ, ps_kz σ.2.2.1.1 y := fun y hy => by
  unfold sg_ks at hy
  obtain ⟨e, -, rfl⟩ := List.mem_map.mp hy
  exact ps_kz_key _ _ _
def Fr80 (D D' : mx_Mem) : Prop := ∀ q, q < 80 → D' q = D q
theorem Fr80_w {D D1 D2 : mx_Mem} {t : Nat} (h : Fr80 D D1) (g : FrW t D1 D2) : Fr80 D D2 := fun q hq => (g.1.1 q (by omega) (by omega) (by omega) (by omega) (by omega)).trans (h q hq)
theorem cmp_b (a b : List Nat) : ps_cmp a b < 0 ∨ (¬ ps_cmp a b < 0 ∧ ps_cmp a b = 0) ∨ (¬ ps_cmp a b < 0 ∧ ¬ ps_cmp a b = 0) := by
  rcases cmp_val a b with h | h | h <;> rw [h] <;> decide
set_option maxHeartbeats 4000000 in
set_option maxRecDepth 100000 in
theorem lp_Mo_below {G : mx_G} {d : Nat} {S : List mx_Sh} {D0 : mx_Mem} {σ : sg} {j : Nat} {y : List Nat} (hS : SM S) (hI : SI σ) (hj : j < 2) : ∀ (m i : Nat) (D : mx_Mem), i ≤ σ.2.2.2.1.length → σ.2.2.2.1.length - i = m → MI D σ → KZ D j y → Fr80 D0 D → EV G (d + 4) m_Mo_below 19 [some (.ref 80), some (.int (nI j)), some (.int (nI (ps_cl ((sg_ks σ).take i) y))), some (.int (nI (2 + i)))] [] S D S (PM D0 σ (nI (ps_cl (sg_ks σ) y))) := by
  obtain ⟨hm0, hm1, hm2, hm3, hm4, hm5, hm6, hm7, hm8, hm9, hm10, hm11, hm12⟩ := id hS
  have hl10 := hI.2.2.2.2.2.1
  intro m
  induction m with
  | zero =>
    intro i D h1 h2 hC hK hF
    have hfl := hC.2.2.2.2.1.1
    rw [List.take_of_length_le (by rw [ks_len]; omega)]
    refine EV.iload_n d_Mo_below_19 rfl ?_
    refine EV.iconst (v := nI 2) d_Mo_below_20 (by decide) ?_
    refine EV.aload_n d_Mo_below_21 rfl ?_
    refine EV.getI fl_Mo_149 d_Mo_below_22 (by first | assumption | rfl) rfl ?_
    refine EV.iadd d_Mo_below_25 ?_
    refine EV.icmp_geN (tgt := 57) d_Mo_below_26 (by decide) rfl (show _ = nI (2 + σ.2.2.2.1.length) from by rw [hfl, nI_add]) (by omega) (by omega) (fun _ => ?_) (fun h => absurd h (by omega))
    refine EV.iload_n d_Mo_below_57 rfl ?_
    exact EV.ireturn d_Mo_below_58 ⟨_, rfl, rfl⟩ ⟨rfl, hC, hF⟩
  | succ m ih =>
    intro i D h1 h2 hC hK hF
    have hfl := hC.2.2.2.2.1.1
    obtain ⟨e, he⟩ : ∃ e, σ.2.2.2.1[i]? = some e := ⟨σ.2.2.2.1[i]'(by omega), List.getElem?_eq_getElem (by omega)⟩
    have hto := (hI.2.2.2.2.2.2.1 e (List.mem_of_getElem? he)).1
    have htx := (hC.2.2.2.2.1.2 i e he).2
    have hcs := ps_cl_snoc ((sg_ks σ).take i) (sg_k σ e.2) y
    rw [← ks_take he] at hcs
    refine EV.iload_n d_Mo_below_19 rfl ?_
    refine EV.iconst (v := nI 2) d_Mo_below_20 (by decide) ?_
    refine EV.aload_n d_Mo_below_21 rfl ?_
    refine EV.getI fl_Mo_149 d_Mo_below_22 (by first | assumption | rfl) rfl ?_
    refine EV.iadd d_Mo_below_25 ?_
    refine EV.icmp_geN (tgt := 57) d_Mo_below_26 (by decide) rfl (show _ = nI (2 + σ.2.2.2.1.length) from by rw [hfl, nI_add]) (by omega) (by omega) (fun h => absurd h (by omega)) (fun _ => ?_)
    refine EV.aload_n d_Mo_below_29 rfl ?_
    refine EV.iload_n d_Mo_below_30 rfl ?_
    refine EV.V1 cv_Mo_143 d_Mo_below_31 (by first | assumption | rfl) (rf_wr hS hC hI (t := 2 + i) (by omega) htx hto) ⟨Nat.le_refl _, Nat.le_refl _⟩ rfl rfl (Nat.le_of_ble_eq_true rfl) (fun rv D1 hp => ?_)
    obtain ⟨rfl, q1, q2⟩ := hp
    have hC1 := MI_fr hC q1
    have hK1 := KZ_fr hK q1 (by omega)
    refine EV.aload_n d_Mo_below_34 rfl ?_
    refine EV.iload_n d_Mo_below_35 rfl ?_
    refine EV.iload_n d_Mo_below_36 rfl ?_
    refine EV.V2 cv_Mo_146 d_Mo_below_37 (by first | assumption | rfl) (sp_Mo_order hS (by omega) (by omega) q2 hK1) ⟨Nat.le_refl _, Nat.le_refl _⟩ rfl rfl (Nat.le_of_ble_eq_true rfl) (fun rv D1 hp => ?_)
    obtain ⟨rfl, hD⟩ := hp
    obtain rfl := hD.symm
    refine EV.if_ge (tgt := 49) d_Mo_below_40 (by decide) (fun h40 => ?_) (fun h40 => ?_)
    · rw [if_neg (Int32.not_lt.mpr h40)] at hcs
      refine EV.iload_n d_Mo_below_49 rfl ?_
      refine EV.istore_n d_Mo_below_50 (by decide) ?_
      refine EV.iincN d_Mo_below_51 rfl (by decide) ?_
      refine EV.goto (tgt := 19) d_Mo_below_54 (by decide) ?_
      have J := ih (i + 1) D1 (by omega) (by omega) hC1 hK1 (Fr80_w hF q1)
      rw [hcs] at J
      exact J
    · rw [if_pos (Int32.not_le.mp h40)] at hcs
      refine EV.iload_n d_Mo_below_43 rfl ?_
      refine EV.iconst (v := nI 1) d_Mo_below_44 (by decide) ?_
      refine EV.iadd d_Mo_below_45 ?_
      refine EV.top (nI_add _ _) ?_
      refine EV.goto (tgt := 50) d_Mo_below_46 (by decide) ?_
      refine EV.istore_n d_Mo_below_50 (by decide) ?_
      refine EV.iincN d_Mo_below_51 rfl (by decide) ?_
      refine EV.goto (tgt := 19) d_Mo_below_54 (by decide) ?_
      have J := ih (i + 1) D1 (by omega) (by omega) hC1 hK1 (Fr80_w hF q1)
      rw [hcs] at J
      exact J
set_option maxHeartbeats 4000000 in
set_option maxRecDepth 100000 in
theorem sp_Mo_be0 {G : mx_G} {d : Nat} {S : List mx_Sh} {D : mx_Mem} {σ : sg} (hS : SM S) (hC : MI D σ) (hI : SI σ) : EV G (d + 4) m_Mo_below 0 (mx_lc0 m_Mo_below [.ref 80, .int (nI 0)]) [] S D S (PM D σ (nI (ps_cl (sg_ks σ) (sg_k σ (σ.1 0))))) := by
  obtain ⟨hm0, hm1, hm2, hm3, hm4, hm5, hm6, hm7, hm8, hm9, hm10, hm11, hm12⟩ := id hS
  show EV _ _ _ _ [some (.ref 80), some (.int (nI 0)), none, none] [] _ _ _ _
  refine EV.aload_n d_Mo_below_0 rfl ?_
  refine EV.iload_n d_Mo_below_1 rfl ?_
  refine EV.V1 cv_Mo_63 d_Mo_below_2 (by first | assumption | rfl) (sp_Mo_isLine) ⟨Nat.le_refl _, Nat.le_refl _⟩ rfl rfl (Nat.le_of_ble_eq_true rfl) (fun rv D1 hp => ?_)
  obtain ⟨rfl, hD⟩ := hp
  obtain rfl := hD.symm
  refine EV.if_neB (tgt := 10) d_Mo_below_5 (by decide) (fun _ => ?_) (fun h => absurd h (by decide))
  refine EV.aload_n d_Mo_below_10 rfl ?_
  refine EV.iload_n d_Mo_below_11 rfl ?_
  refine EV.V1 cv_Mo_143 d_Mo_below_12 (by first | assumption | rfl) (rf_wr hS hC hI (t := 0) (by decide) hC.1.1 hI.1.1) ⟨Nat.le_refl _, Nat.le_refl _⟩ rfl rfl (Nat.le_of_ble_eq_true rfl) (fun rv D1 hp => ?_)
  obtain ⟨rfl, q1, q2⟩ := hp
  refine EV.iconst (v := nI 0) d_Mo_below_15 (by decide) ?_
  refine EV.istore_n d_Mo_below_16 (by decide) ?_
  refine EV.iconst (v := nI 2) d_Mo_below_17 (by decide) ?_
  refine EV.istore_n d_Mo_below_18 (by decide) ?_
  exact lp_Mo_below (j := 0) hS hI (by decide) σ.2.2.2.1.length 0 D1 (by omega) rfl (MI_fr hC q1) q2 (Fr80_w (fun _ _ => rfl) q1)
set_option maxHeartbeats 4000000 in
set_option maxRecDepth 100000 in
theorem sp_Mo_be1 {G : mx_G} {d : Nat} {S : List mx_Sh} {D : mx_Mem} {σ : sg} (hS : SM S) (hC : MI D σ) (hI : SI σ) : EV G (d + 4) m_Mo_below 0 (mx_lc0 m_Mo_below [.ref 80, .int (nI 1)]) [] S D S (PM D σ (nI (ps_cl (sg_ks σ) (sg_k σ (σ.1 1))))) := by
  obtain ⟨hm0, hm1, hm2, hm3, hm4, hm5, hm6, hm7, hm8, hm9, hm10, hm11, hm12⟩ := id hS
  show EV _ _ _ _ [some (.ref 80), some (.int (nI 1)), none, none] [] _ _ _ _
  refine EV.aload_n d_Mo_below_0 rfl ?_
  refine EV.iload_n d_Mo_below_1 rfl ?_
  refine EV.V1 cv_Mo_63 d_Mo_below_2 (by first | assumption | rfl) (sp_Mo_isLine) ⟨Nat.le_refl _, Nat.le_refl _⟩ rfl rfl (Nat.le_of_ble_eq_true rfl) (fun rv D1 hp => ?_)
  obtain ⟨rfl, hD⟩ := hp
  obtain rfl := hD.symm
  refine EV.if_neB (tgt := 10) d_Mo_below_5 (by decide) (fun _ => ?_) (fun h => absurd h (by decide))
  refine EV.aload_n d_Mo_below_10 rfl ?_
  refine EV.iload_n d_Mo_below_11 rfl ?_
  refine EV.V1 cv_Mo_143 d_Mo_below_12 (by first | assumption | rfl) (rf_wr hS hC hI (t := 1) (by decide) hC.1.2 hI.1.2) ⟨Nat.le_refl _, Nat.le_refl _⟩ rfl rfl (Nat.le_of_ble_eq_true rfl) (fun rv D1 hp => ?_)
  obtain ⟨rfl, q1, q2⟩ := hp
  refine EV.iconst (v := nI 0) d_Mo_below_15 (by decide) ?_
  refine EV.istore_n d_Mo_below_16 (by decide) ?_
  refine EV.iconst (v := nI 2) d_Mo_below_17 (by decide) ?_
  refine EV.istore_n d_Mo_below_18 (by decide) ?_
  exact lp_Mo_below (j := 1) hS hI (by decide) σ.2.2.2.1.length 0 D1 (by omega) rfl (MI_fr hC q1) q2 (Fr80_w (fun _ _ => rfl) q1)
set_option maxHeartbeats 4000000 in
set_option maxRecDepth 100000 in
theorem sp_Mo_beN {G : mx_G} {d : Nat} {S : List mx_Sh} {D : mx_Mem} {σ : sg} (hS : SM S) (hC : MI D σ) (hI : SI σ) {x : Int32} (hx : ¬ x = nI 0 ∧ ¬ x = nI 1) : EV G (d + 4) m_Mo_below 0 (mx_lc0 m_Mo_below [.ref 80, .int x]) [] S D S (PM D σ (-1)) := by
  obtain ⟨hm0, hm1, hm2, hm3, hm4, hm5, hm6, hm7, hm8, hm9, hm10, hm11, hm12⟩ := id hS
  show EV _ _ _ _ [some (.ref 80), some (.int x), none, none] [] _ _ _ _
  refine EV.aload_n d_Mo_below_0 rfl ?_
  refine EV.iload_n d_Mo_below_1 rfl ?_
  refine EV.V1 cv_Mo_63 d_Mo_below_2 (by first | assumption | rfl) (sp_Mo_isLine) ⟨Nat.le_refl _, Nat.le_refl _⟩ rfl rfl (Nat.le_of_ble_eq_true rfl) (fun rv D1 hp => ?_)
  obtain ⟨rfl, hD⟩ := hp
  obtain rfl := hD.symm
  refine EV.if_neB (tgt := 10) d_Mo_below_5 (by decide) (fun h => by have := of_decide_eq_true h; exact (this.elim hx.1 hx.2).elim) (fun _ => ?_)
  refine EV.iconst (v := (-1)) d_Mo_below_8 (by decide) ?_
  exact EV.ireturn d_Mo_below_9 ⟨_, rfl, rfl⟩ ⟨rfl, hC, fun _ _ => rfl⟩
set_option maxHeartbeats 4000000 in
set_option maxRecDepth 100000 in
theorem rf_bel {G : mx_G} {d : Nat} {S : List mx_Sh} {D : mx_Mem} {σ : sg} (hS : SM S) (hC : MI D σ) (hI : SI σ) {x : Int32} : EV G (d + 4) m_Mo_below 0 (mx_lc0 m_Mo_below [.ref 80, .int x]) [] S D S (PM D σ (op_bel σ x)) := by
  unfold op_bel
  by_cases h0 : x = nI 0
  · subst h0; rw [if_pos rfl]; exact sp_Mo_be0 hS hC hI
  · by_cases h1 : x = nI 1
    · subst h1; rw [if_neg h0, if_pos rfl]; exact sp_Mo_be1 hS hC hI
    · rw [if_neg h0, if_neg h1]; exact sp_Mo_beN hS hC hI ⟨h0, h1⟩
set_option maxHeartbeats 4000000 in
set_option maxRecDepth 100000 in
theorem lp_Mo_io3 {G : mx_G} {d : Nat} {S : List mx_Sh} {D : mx_Mem} {σ : sg} {i : Nat} {x r : Int32} {Post : Option Value → mx_Mem → Prop} (hS : SM S) (hI : SI σ) (hC : MI D σ) (hK : (∀ (u : Nat) (y : List Nat), (sg_ks σ)[u]? = some y → KZ D (2 + u) y)) (hi : i < σ.2.2.2.1.length) (K : ∀ v5 v6 : Option Value, EV G (d + 1) m_Mo_inOrder 96 [some (.ref 80), some (.int x), some (.int r), some (.int (nI (2 + i))), some (.int (nI (ps_plc (sg_ks σ) i))), v5, v6] [] S D S Post) : ∀ (m u : Nat) (v6 : Option Value), u ≤ σ.2.2.2.1.length → σ.2.2.2.1.length - u = m → EV G (d + 1) m_Mo_inOrder 43 [some (.ref 80), some (.int x), some (.int r), some (.int (nI (2 + i))), some (.int (nI (cnt (ps_bf (sg_ks σ) i) u))), some (.int (nI (2 + u))), v6] [] S D S Post := by
  obtain ⟨hm0, hm1, hm2, hm3, hm4, hm5, hm6, hm7, hm8, hm9, hm10, hm11, hm12⟩ := id hS
  have hl10 := hI.2.2.2.2.2.1
  have hfl := hC.2.2.2.2.1.1
  have hkl := ks_len σ
  have hki : (sg_ks σ)[i]? = some ((sg_ks σ)[i]'(by omega)) := List.getElem?_eq_getElem (by omega)
  intro m
  induction m with
  | zero =>
    intro u v6 h1 h2
    have eu : u = (sg_ks σ).length := by omega
    rw [eu, ← plc_cnt (by omega)]
    rw [show (2 + (sg_ks σ).length) = 2 + u by omega]
    refine EV.iload d_Mo_inOrder_43 rfl ?_
    refine EV.iconst (v := nI 2) d_Mo_inOrder_45 (by decide) ?_
    refine EV.aload_n d_Mo_inOrder_46 rfl ?_
    refine EV.getI fl_Mo_149 d_Mo_inOrder_47 (by first | assumption | rfl) rfl ?_
    refine EV.iadd d_Mo_inOrder_50 ?_
    refine EV.icmp_geN (tgt := 96) d_Mo_inOrder_51 (by decide) rfl (show _ = nI (2 + σ.2.2.2.1.length) from by rw [hfl, nI_add]) (by omega) (by omega) (fun _ => ?_) (fun h => absurd h (by omega))
    exact K _ _
  | succ m ih =>
    intro u v6 h1 h2
    have hku : (sg_ks σ)[u]? = some ((sg_ks σ)[u]'(by omega)) := List.getElem?_eq_getElem (by omega)
    have hcu : cnt (ps_bf (sg_ks σ) i) (u + 1) = cnt (ps_bf (sg_ks σ) i) u + if ps_bf (sg_ks σ) i u = true then 1 else 0 := rfl
    have hbf : ps_bf (sg_ks σ) i u = (decide (ps_cmp ((sg_ks σ)[u]'(by omega)) ((sg_ks σ)[i]'(by omega)) < 0) || (decide (ps_cmp ((sg_ks σ)[u]'(by omega)) ((sg_ks σ)[i]'(by omega)) = 0) && decide (u < i))) := by
      unfold ps_bf
      simp [List.getD, hku, hki]
    have hKu := hK u _ hku
    have hKi := hK i _ hki
    generalize (sg_ks σ)[u]'(by omega) = a at hbf hKu hku
    generalize (sg_ks σ)[i]'(by omega) = b at hbf hKi hki
    have hcn := cnt_n (ps_bf (sg_ks σ) i) u
    have Y : ps_bf (sg_ks σ) i u = true → EV G (d + 1) m_Mo_inOrder 79 [some (.ref 80), some (.int x), some (.int r), some (.int (nI (2 + i))), some (.int (nI (cnt (ps_bf (sg_ks σ) i) u))), some (.int (nI (2 + u))), some (.int (ps_cmp a b))] [] S D S Post := by
      intro hb
      rw [if_pos hb] at hcu
      have J := ih (u + 1) (some (.int (ps_cmp a b))) (by omega) (by omega)
      rw [hcu] at J
      refine EV.iload d_Mo_inOrder_79 rfl ?_
      refine EV.iconst (v := nI 1) d_Mo_inOrder_81 (by decide) ?_
      refine EV.iadd d_Mo_inOrder_82 ?_
      refine EV.top (nI_add _ _) ?_
      refine EV.goto (tgt := 88) d_Mo_inOrder_83 (by decide) ?_
      refine EV.istore d_Mo_inOrder_88 (by decide) ?_
      refine EV.iincN d_Mo_inOrder_90 rfl (by decide) ?_
      refine EV.goto (tgt := 43) d_Mo_inOrder_93 (by decide) ?_
      exact J
    have N : ps_bf (sg_ks σ) i u = false → EV G (d + 1) m_Mo_inOrder 86 [some (.ref 80), some (.int x), some (.int r), some (.int (nI (2 + i))), some (.int (nI (cnt (ps_bf (sg_ks σ) i) u))), some (.int (nI (2 + u))), some (.int (ps_cmp a b))] [] S D S Post := by
      intro hb
      rw [if_neg (by simp [hb])] at hcu
      have J := ih (u + 1) (some (.int (ps_cmp a b))) (by omega) (by omega)
      rw [hcu] at J
      refine EV.iload d_Mo_inOrder_86 rfl ?_
      refine EV.istore d_Mo_inOrder_88 (by decide) ?_
      refine EV.iincN d_Mo_inOrder_90 rfl (by decide) ?_
      refine EV.goto (tgt := 43) d_Mo_inOrder_93 (by decide) ?_
      exact J
    refine EV.iload d_Mo_inOrder_43 rfl ?_
    refine EV.iconst (v := nI 2) d_Mo_inOrder_45 (by decide) ?_
    refine EV.aload_n d_Mo_inOrder_46 rfl ?_
    refine EV.getI fl_Mo_149 d_Mo_inOrder_47 (by first | assumption | rfl) rfl ?_
    refine EV.iadd d_Mo_inOrder_50 ?_
    refine EV.icmp_geN (tgt := 96) d_Mo_inOrder_51 (by decide) rfl (show _ = nI (2 + σ.2.2.2.1.length) from by rw [hfl, nI_add]) (by omega) (by omega) (fun h => absurd h (by omega)) (fun _ => ?_)
    refine EV.aload_n d_Mo_inOrder_54 rfl ?_
    refine EV.iload d_Mo_inOrder_55 rfl ?_
    refine EV.iload_n d_Mo_inOrder_57 rfl ?_
    refine EV.V2 cv_Mo_146 d_Mo_inOrder_58 (by first | assumption | rfl) (sp_Mo_order hS (by omega) (by omega) hKu hKi) ⟨Nat.le_refl _, Nat.le_refl _⟩ rfl rfl (Nat.le_of_ble_eq_true rfl) (fun rv D1 hp => ?_)
    obtain ⟨rfl, hD⟩ := hp
    obtain rfl := hD.symm
    refine EV.istore d_Mo_inOrder_61 (by decide) ?_
    refine EV.iload d_Mo_inOrder_63 rfl ?_
    refine EV.if_lt (tgt := 79) d_Mo_inOrder_65 (by decide) (fun h => Y (by rw [hbf]; simp [h])) (fun h65 => ?_)
    refine EV.iload d_Mo_inOrder_68 rfl ?_
    refine EV.if_ne (tgt := 86) d_Mo_inOrder_70 (by decide) (fun h => N (by rw [hbf]; simp [h65, h])) (fun h70 => ?_)
    refine EV.iload d_Mo_inOrder_73 rfl ?_
    refine EV.iload_n d_Mo_inOrder_75 rfl ?_
    refine EV.icmp_geN (tgt := 86) d_Mo_inOrder_76 (by decide) rfl rfl (by omega) (by omega) (fun h76 => ?_) (fun h76 => ?_)
    · exact N (by rw [hbf]; simp [h65, h70, show ¬ u < i by omega])
    · exact Y (by rw [hbf]; simp [h70, show u < i by omega])
set_option maxHeartbeats 4000000 in
set_option maxRecDepth 100000 in
theorem lp_Mo_io2 {G : mx_G} {d : Nat} {S : List mx_Sh} {D0 D : mx_Mem} {σ : sg} {x : Int32} (hS : SM S) (hI : SI σ) (hC : MI D σ) (hK : (∀ (u : Nat) (y : List Nat), (sg_ks σ)[u]? = some y → KZ D (2 + u) y)) (hF : Fr80 D0 D) : ∀ (m i : Nat) (r : Int32) (v4 v5 v6 : Option Value), i ≤ σ.2.2.2.1.length → σ.2.2.2.1.length - i = m → ((∃ (a : Nat) (e : Nat × List Nat), a < i ∧ σ.2.2.2.1[a]? = some e ∧ nI (ps_plc (sg_ks σ) a) = x ∧ r = nI e.1) ∨ ((∀ j, j < i → ¬ nI (ps_plc (sg_ks σ) j) = x) ∧ r = -1)) → EV G (d + 1) m_Mo_inOrder 27 [some (.ref 80), some (.int x), some (.int r), some (.int (nI (2 + i))), v4, v5, v6] [] S D S (PM D0 σ (op_ord σ x)) := by
  obtain ⟨hm0, hm1, hm2, hm3, hm4, hm5, hm6, hm7, hm8, hm9, hm10, hm11, hm12⟩ := id hS
  have hl10 := hI.2.2.2.2.2.1
  have hfl := hC.2.2.2.2.1.1
  have hkl := ks_len σ
  have hpn : ∀ j, j < σ.2.2.2.1.length → ps_plc (sg_ks σ) j ≤ 10 := fun j hj => by
    rw [plc_cnt (by omega)]
    have := cnt_n (ps_bf (sg_ks σ) j) (sg_ks σ).length
    omega
  intro m
  induction m with
  | zero =>
    intro i r v4 v5 v6 h1 h2 hr
    have hres : r = op_ord σ x := by
      refine NumP_op ?_
      rcases hr with ⟨a, e, ha, he, hx, rfl⟩ | ⟨hn, rfl⟩
      · refine Or.inl ⟨a, e, he, hx, fun j hj hq => ?_, rfl⟩
        have := plc_un (ks_kz σ) (i := j) (j := a) (by omega) (by omega) ((nI_eq (by have := hpn j (by omega); omega) (by have := hpn a (by omega); omega)).mp (hq.trans hx.symm))
        omega
      · exact Or.inr ⟨fun j hj => hn j (by omega), rfl⟩
    subst hres
    refine EV.iload_n d_Mo_inOrder_27 rfl ?_
    refine EV.iconst (v := nI 2) d_Mo_inOrder_28 (by decide) ?_
    refine EV.aload_n d_Mo_inOrder_29 rfl ?_
    refine EV.getI fl_Mo_149 d_Mo_inOrder_30 (by first | assumption | rfl) rfl ?_
    refine EV.iadd d_Mo_inOrder_33 ?_
    refine EV.icmp_geN (tgt := 119) d_Mo_inOrder_34 (by decide) rfl (show _ = nI (2 + σ.2.2.2.1.length) from by rw [hfl, nI_add]) (by omega) (by omega) (fun _ => ?_) (fun h => absurd h (by omega))
    refine EV.iload_n d_Mo_inOrder_119 rfl ?_
    exact EV.ireturn d_Mo_inOrder_120 ⟨_, rfl, rfl⟩ ⟨rfl, hC, hF⟩
  | succ m ih =>
    intro i r v4 v5 v6 h1 h2 hr
    obtain ⟨e, he⟩ : ∃ e, σ.2.2.2.1[i]? = some e := ⟨σ.2.2.2.1[i]'(by omega), List.getElem?_eq_getElem (by omega)⟩
    have hnv := (hC.2.2.2.2.1.2 i e he).1
    have hpi := hpn i (by omega)
    have hm91 : i + 1 ≤ σ.2.2.2.1.length := by clear hr; omega
    have hm92 : σ.2.2.2.1.length - (i + 1) = m := by clear hr; omega
    refine EV.iload_n d_Mo_inOrder_27 rfl ?_
    refine EV.iconst (v := nI 2) d_Mo_inOrder_28 (by decide) ?_
    refine EV.aload_n d_Mo_inOrder_29 rfl ?_
    refine EV.getI fl_Mo_149 d_Mo_inOrder_30 (by first | assumption | rfl) rfl ?_
    refine EV.iadd d_Mo_inOrder_33 ?_
    refine EV.icmp_geN (tgt := 119) d_Mo_inOrder_34 (by decide) rfl (show _ = nI (2 + σ.2.2.2.1.length) from by rw [hfl, nI_add]) (by omega) (by omega) (fun h => absurd h (by omega)) (fun _ => ?_)
    refine EV.iconst (v := nI 0) d_Mo_inOrder_37 (by decide) ?_
    refine EV.istore d_Mo_inOrder_38 (by decide) ?_
    refine EV.iconst (v := nI 2) d_Mo_inOrder_40 (by decide) ?_
    refine EV.istore d_Mo_inOrder_41 (by decide) ?_
    refine lp_Mo_io3 (i := i) hS hI hC hK (by omega) ?_ σ.2.2.2.1.length 0 _ (by omega) rfl
    intro w5 w6
    refine EV.iload d_Mo_inOrder_96 rfl ?_
    refine EV.iload_n d_Mo_inOrder_98 rfl ?_
    refine EV.icmp_ne (tgt := 111) d_Mo_inOrder_99 (by decide) (fun h99 => ?_) (fun h99 => ?_)
    · refine EV.iload_n d_Mo_inOrder_111 rfl ?_
      refine EV.istore_n d_Mo_inOrder_112 (by decide) ?_
      refine EV.iincN d_Mo_inOrder_113 rfl (by decide) ?_
      refine EV.goto (tgt := 27) d_Mo_inOrder_116 (by decide) ?_
      first
      | exact ih (i + 1) r _ _ _ hm91 hm92 (by
          rcases hr with ⟨a, e', ha, h3, h4, h5⟩ | ⟨h3, h4⟩
          · exact Or.inl ⟨a, e', by omega, h3, h4, h5⟩
          · refine Or.inr ⟨fun j hj => ?_, h4⟩
            rcases Nat.lt_or_ge j i with q | q
            · exact h3 j q
            · rw [show j = i by omega]; exact h99)
      | exact ih (i + 1) (nI e.1) _ _ _ hm91 hm92 (Or.inl ⟨i, e, by omega, he, h99, rfl⟩)
    · refine EV.aload_n d_Mo_inOrder_102 rfl ?_
      refine EV.getR fl_Mo_31 d_Mo_inOrder_103 (by first | assumption | rfl) rfl ?_
      refine EV.iload_n d_Mo_inOrder_106 rfl ?_
      refine EV.ialdN d_Mo_inOrder_107 (by first | assumption | rfl) rfl rfl (by omega) (by first | decide | omega) ?_
      refine EV.top hnv ?_
      refine EV.goto (tgt := 112) d_Mo_inOrder_108 (by decide) ?_
      refine EV.istore_n d_Mo_inOrder_112 (by decide) ?_
      refine EV.iincN d_Mo_inOrder_113 rfl (by decide) ?_
      refine EV.goto (tgt := 27) d_Mo_inOrder_116 (by decide) ?_
      first
      | exact ih (i + 1) r _ _ _ hm91 hm92 (by
          rcases hr with ⟨a, e', ha, h3, h4, h5⟩ | ⟨h3, h4⟩
          · exact Or.inl ⟨a, e', by omega, h3, h4, h5⟩
          · refine Or.inr ⟨fun j hj => ?_, h4⟩
            rcases Nat.lt_or_ge j i with q | q
            · exact h3 j q
            · rw [show j = i by omega]; exact h99)
      | exact ih (i + 1) (nI e.1) _ _ _ hm91 hm92 (Or.inl ⟨i, e, by omega, he, h99, rfl⟩)
set_option maxHeartbeats 4000000 in
set_option maxRecDepth 100000 in
theorem lp_Mo_io1 {G : mx_G} {d : Nat} {S : List mx_Sh} {D0 : mx_Mem} {σ : sg} {x : Int32} {v3 v4 v5 v6 : Option Value} (hS : SM S) (hI : SI σ) : ∀ (m i : Nat) (D : mx_Mem), i ≤ σ.2.2.2.1.length → σ.2.2.2.1.length - i = m → MI D σ → (∀ (u : Nat) (y : List Nat), u < i → (sg_ks σ)[u]? = some y → KZ D (2 + u) y) → Fr80 D0 D → EV G (d + 4) m_Mo_inOrder 2 [some (.ref 80), some (.int x), some (.int (nI (2 + i))), v3, v4, v5, v6] [] S D S (PM D0 σ (op_ord σ x)) := by
  obtain ⟨hm0, hm1, hm2, hm3, hm4, hm5, hm6, hm7, hm8, hm9, hm10, hm11, hm12⟩ := id hS
  have hl10 := hI.2.2.2.2.2.1
  have hkl := ks_len σ
  intro m
  induction m with
  | zero =>
    intro i D h1 h2 hC hK hF
    have hfl := hC.2.2.2.2.1.1
    refine EV.iload_n d_Mo_inOrder_2 rfl ?_
    refine EV.iconst (v := nI 2) d_Mo_inOrder_3 (by decide) ?_
    refine EV.aload_n d_Mo_inOrder_4 rfl ?_
    refine EV.getI fl_Mo_149 d_Mo_inOrder_5 (by first | assumption | rfl) rfl ?_
    refine EV.iadd d_Mo_inOrder_8 ?_
    refine EV.icmp_geN (tgt := 23) d_Mo_inOrder_9 (by decide) rfl (show _ = nI (2 + σ.2.2.2.1.length) from by rw [hfl, nI_add]) (by omega) (by omega) (fun _ => ?_) (fun h => absurd h (by omega))
    refine EV.iconst (v := (-1)) d_Mo_inOrder_23 (by decide) ?_
    refine EV.istore_n d_Mo_inOrder_24 (by decide) ?_
    refine EV.iconst (v := nI 2) d_Mo_inOrder_25 (by decide) ?_
    refine EV.istore_n d_Mo_inOrder_26 (by decide) ?_
    exact lp_Mo_io2 (d := d + 3) hS hI hC (fun u y hy => hK u y (by have := (List.getElem?_eq_some_iff.mp hy).1; omega) hy) hF σ.2.2.2.1.length 0 (-1) _ _ _ (by omega) rfl (Or.inr ⟨fun j hj => absurd hj (by omega), rfl⟩)
  | succ m ih =>
    intro i D h1 h2 hC hK hF
    have hfl := hC.2.2.2.2.1.1
    obtain ⟨e, he⟩ : ∃ e, σ.2.2.2.1[i]? = some e := ⟨σ.2.2.2.1[i]'(by omega), List.getElem?_eq_getElem (by omega)⟩
    have hto := (hI.2.2.2.2.2.2.1 e (List.mem_of_getElem? he)).1
    have htx := (hC.2.2.2.2.1.2 i e he).2
    refine EV.iload_n d_Mo_inOrder_2 rfl ?_
    refine EV.iconst (v := nI 2) d_Mo_inOrder_3 (by decide) ?_
    refine EV.aload_n d_Mo_inOrder_4 rfl ?_
    refine EV.getI fl_Mo_149 d_Mo_inOrder_5 (by first | assumption | rfl) rfl ?_
    refine EV.iadd d_Mo_inOrder_8 ?_
    refine EV.icmp_geN (tgt := 23) d_Mo_inOrder_9 (by decide) rfl (show _ = nI (2 + σ.2.2.2.1.length) from by rw [hfl, nI_add]) (by omega) (by omega) (fun h => absurd h (by omega)) (fun _ => ?_)
    refine EV.aload_n d_Mo_inOrder_12 rfl ?_
    refine EV.iload_n d_Mo_inOrder_13 rfl ?_
    refine EV.V1 cv_Mo_143 d_Mo_inOrder_14 (by first | assumption | rfl) (rf_wr hS hC hI (t := 2 + i) (by omega) htx hto) ⟨Nat.le_refl _, Nat.le_refl _⟩ rfl rfl (Nat.le_of_ble_eq_true rfl) (fun rv D1 hp => ?_)
    obtain ⟨rfl, q1, q2⟩ := hp
    refine EV.iincN d_Mo_inOrder_17 rfl (by decide) ?_
    refine EV.goto (tgt := 2) d_Mo_inOrder_20 (by decide) ?_
    refine ih (i + 1) D1 (by omega) (by omega) (MI_fr hC q1) (fun u y hu hy => ?_) (Fr80_w hF q1)
    by_cases hq : u = i
    · subst hq
      rw [ks_at he] at hy
      cases hy
      exact q2
    · exact KZ_fr (hK u y (by omega) hy) q1 (by omega)
set_option maxHeartbeats 4000000 in
set_option maxRecDepth 100000 in
theorem rf_ord {G : mx_G} {d : Nat} {S : List mx_Sh} {D : mx_Mem} {σ : sg} (hS : SM S) (hC : MI D σ) (hI : SI σ) {x : Int32} : EV G (d + 4) m_Mo_inOrder 0 (mx_lc0 m_Mo_inOrder [.ref 80, .int x]) [] S D S (PM D σ (op_ord σ x)) := by
  obtain ⟨hm0, hm1, hm2, hm3, hm4, hm5, hm6, hm7, hm8, hm9, hm10, hm11, hm12⟩ := id hS
  show EV _ _ _ _ [some (.ref 80), some (.int x), none, none, none, none, none] [] _ _ _ _
  refine EV.iconst (v := nI 2) d_Mo_inOrder_0 (by decide) ?_
  refine EV.istore_n d_Mo_inOrder_1 (by decide) ?_
  exact lp_Mo_io1 hS hI σ.2.2.2.1.length 0 D (by omega) rfl hC (fun u y hu => absurd hu (by omega)) (fun _ _ => rfl)
