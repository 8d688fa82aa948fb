/-- a text is filed -/
theorem MI_put {D0 D' : mx_Mem} {σ : sg} {xs : List Nat} (hI : SI σ) (h : MI D0 σ) (hxs : xs.length ≤ 12) (hl : σ.2.2.2.1.length < 10) (hF : ∀ k, ¬ k = 80 → ¬ k = 86 → ¬ k = 87 → ¬ k = 88 → D' k = D0 k) (h8 : ∀ j, ¬ j = 11 → ¬ j = 12 → D' 80 j = D0 80 j) (h11 : D' 80 11 = nI (σ.2.2.2.1.length + 1)) (h12 : D' 80 12 = nI (σ.2.2.2.2 + 1)) (h86 : ∀ i, i < 12 * (2 + σ.2.2.2.1.length) → D' 86 i = D0 86 i) (h87 : ∀ u, ¬ u = 2 + σ.2.2.2.1.length → D' 87 u = D0 87 u) (h88 : ∀ u, ¬ u = 2 + σ.2.2.2.1.length → D' 88 u = D0 88 u) (hn : D' 88 (2 + σ.2.2.2.1.length) = nI σ.2.2.2.2) (hx : TX D' (2 + σ.2.2.2.1.length) xs) : MI D' (σ.1, σ.2.1, σ.2.2.1, σ.2.2.2.1 ++ [(σ.2.2.2.2, xs)], σ.2.2.2.2 + 1) := by
  obtain ⟨⟨a1, a2⟩, ⟨b1, b2⟩, ⟨c1, c2⟩, ⟨d1, d2, d3⟩, ⟨e1, e2⟩, f1⟩ := h
  have hto := hI.2.2.2.2.2.2.1
  refine ⟨⟨TX_kept a1 hI.1.1.1 (h87 _ (by omega)) (fun i hi => h86 _ (by omega)), TX_kept a2 hI.1.2.1 (h87 _ (by omega)) (fun i hi => h86 _ (by omega))⟩, ⟨by rw [h8 7 (by omega) (by omega)]; exact b1, by rw [hF 85 (by omega) (by omega) (by omega) (by omega)]; exact b2⟩, ⟨by rw [h8 0 (by omega) (by omega)]; exact c1, by rw [hF 81 (by omega) (by omega) (by omega) (by omega), hF 82 (by omega) (by omega) (by omega) (by omega)]; exact c2⟩, ⟨by rw [h8 13 (by omega) (by omega)]; exact d1, by rw [h8 14 (by omega) (by omega)]; exact d2, by rw [h8 15 (by omega) (by omega)]; exact d3⟩, ⟨by rw [h11]; simp, fun i e he => ?_⟩, h12⟩
  by_cases hi : i = σ.2.2.2.1.length
  · subst hi
    simp at he
    subst he
    exact ⟨hn, hx⟩
  · have hil : i < σ.2.2.2.1.length := by
      have := (List.getElem?_eq_some_iff.mp he).1
      rw [List.length_append, List.length_singleton] at this
      omega
    rw [List.getElem?_append_left hil] at he
    obtain ⟨z1, z2⟩ := e2 i e he
    exact ⟨by rw [h88 _ (by omega)]; exact z1, TX_kept z2 (hto e (List.mem_of_getElem? he)).1.1 (h87 _ (by omega)) (fun k hk => h86 _ (by omega))⟩
def fx_b (f : Nat → Int32) (p q : Nat) : Nat → Int32 := fun j => if p ≤ j ∧ j < q then f (j + 12) else f j
theorem fx_b_0 (f : Nat → Int32) (p : Nat) : fx_b f p p = f := by
  funext j
  unfold fx_b
  rw [if_neg (by omega)]
theorem fx_b_s (f : Nat → Int32) {p q : Nat} (h : p ≤ q) : upd (fx_b f p q) q (fx_b f p q (q + 12)) = fx_b f p (q + 1) := by
  funext j
  unfold fx_b upd
  by_cases h1 : j = q
  · subst h1
    rw [if_pos rfl, if_neg (by omega), if_pos (by omega)]
  · rw [if_neg h1]
    dsimp only
    by_cases h2 : p ≤ j ∧ j < q
    · rw [if_pos h2, if_pos (by omega)]
    · rw [if_neg h2, if_neg (by omega)]
/-- entry a is gone -/
theorem MI_out {D0 D' : mx_Mem} {σ : sg} {a : Nat} (hI : SI σ) (h : MI D0 σ) (ha : a < σ.2.2.2.1.length) (hF : ∀ k, ¬ k = 80 → ¬ k = 86 → ¬ k = 87 → ¬ k = 88 → D' k = D0 k) (h8 : ∀ j, ¬ j = 11 → D' 80 j = D0 80 j) (h11 : D' 80 11 = nI (σ.2.2.2.1.length - 1)) (h86 : D' 86 = fx_b (D0 86) (12 * (2 + a)) (12 * (2 + (σ.2.2.2.1.length - 1)))) (h87 : D' 87 = fx_dl (D0 87) (2 + a) (2 + σ.2.2.2.1.length)) (h88 : D' 88 = fx_dl (D0 88) (2 + a) (2 + σ.2.2.2.1.length)) : MI D' (σ.1, σ.2.1, σ.2.2.1, σ.2.2.2.1.eraseIdx a, σ.2.2.2.2) := by
  obtain ⟨⟨a1, a2⟩, ⟨b1, b2⟩, ⟨c1, c2⟩, ⟨d1, d2, d3⟩, ⟨e1, e2⟩, f1⟩ := h
  have hto := hI.2.2.2.2.2.2.1
  have low : ∀ t xs, t < 2 + a → xs.length ≤ 12 → TX D0 t xs → TX D' t xs := fun t xs ht hl hx => TX_kept hx hl (by rw [h87]; unfold fx_dl; rw [if_neg (by omega)]) (fun i hi => by rw [h86]; unfold fx_b; rw [if_neg (by omega)])
  refine ⟨⟨low 0 _ (by omega) hI.1.1.1 a1, low 1 _ (by omega) hI.1.2.1 a2⟩, ⟨by rw [h8 7 (by omega)]; exact b1, by rw [hF 85 (by omega) (by omega) (by omega) (by omega)]; exact b2⟩, ⟨by rw [h8 0 (by omega)]; exact c1, by rw [hF 81 (by omega) (by omega) (by omega) (by omega), hF 82 (by omega) (by omega) (by omega) (by omega)]; exact c2⟩, ⟨by rw [h8 13 (by omega)]; exact d1, by rw [h8 14 (by omega)]; exact d2, by rw [h8 15 (by omega)]; exact d3⟩, ⟨by rw [h11, List.length_eraseIdx, if_pos ha], fun i e he => ?_⟩, by rw [h8 12 (by omega)]; exact f1⟩
  have hil : i < σ.2.2.2.1.length - 1 := by
    have := (List.getElem?_eq_some_iff.mp he).1
    rw [List.length_eraseIdx, if_pos ha] at this
    exact this
  rw [List.getElem?_eraseIdx] at he
  by_cases hia : i < a
  · rw [if_pos hia] at he
    obtain ⟨z1, z2⟩ := e2 i e he
    exact ⟨by rw [h88]; unfold fx_dl; rw [if_neg (by omega)]; exact z1, low _ _ (by omega) (hto e (List.mem_of_getElem? he)).1.1 z2⟩
  · rw [if_neg hia] at he
    obtain ⟨z1, z2⟩ := e2 (i + 1) e he
    have hel := (hto e (List.mem_of_getElem? he)).1.1
    refine ⟨by rw [h88]; unfold fx_dl; rw [if_pos (by omega)]; exact z1, by rw [h87]; unfold fx_dl; rw [if_pos (by omega)]; exact z2.1, fun k c hc => ?_⟩
    have hkl := (List.getElem?_eq_some_iff.mp hc).1
    rw [h86]
    unfold fx_b
    rw [if_pos (by omega), show 12 * (2 + i) + k + 12 = 12 * (2 + (i + 1)) + k by omega]
    exact z2.2 k c hc
set_option maxHeartbeats 4000000 in
set_option maxRecDepth 100000 in
theorem lp_Mo_file0 {G : mx_G} {d : Nat} {S : List mx_Sh} {D0 : mx_Mem} {σ : sg} (hS : SM S) (hC : MI D0 σ) (hI : SI σ) (hl : σ.2.2.2.1.length < 10) : ∀ (m k : Nat) (D : mx_Mem), k ≤ 12 → 12 - k = m → (∀ q, ¬ q = 86 → D q = D0 q) → (∀ i, i < 12 * (2 + σ.2.2.2.1.length) → D 86 i = D0 86 i) → (∀ i, i < k → D 86 (12 * (2 + σ.2.2.2.1.length) + i) = D0 86 (12 * 0 + i)) → EV G (d + 1) m_Mo_file 28 [some (.ref 80), some (.int (nI 0)), some (.int (nI (2 + σ.2.2.2.1.length))), some (.int (nI k))] [] S D S (PM D0 (op_put σ (σ.1 0)).2 (op_put σ (σ.1 0)).1) := by
  obtain ⟨hm0, hm1, hm2, hm3, hm4, hm5, hm6, hm7, hm8, hm9, hm10, hm11, hm12⟩ := id hS
  have hop : op_put σ (σ.1 0) = (nI σ.2.2.2.2, (σ.1, σ.2.1, σ.2.2.1, σ.2.2.2.1 ++ [(σ.2.2.2.2, σ.1 0)], σ.2.2.2.2 + 1)) := by unfold op_put; rw [if_pos hl]
  rw [hop]
  have h12 : (σ.1 0).length ≤ 12 := hI.1.1.1
  intro m
  induction m with
  | zero =>
    intro k D h1 h2 ho hlo hcp
    have ek : k = 12 := by omega
    subst ek
    refine EV.iload_n d_Mo_file_28 rfl ?_
    refine EV.bipush (v := nI 12) d_Mo_file_29 (by decide) ?_
    refine EV.icmp_geN (tgt := 62) d_Mo_file_31 (by decide) rfl rfl (by omega) (by omega) (fun _ => ?_) (fun h => absurd h (by omega))
    refine EV.aload_n d_Mo_file_62 rfl ?_
    refine EV.getR fl_Mo_28 d_Mo_file_63 (by first | assumption | rfl) rfl ?_
    refine EV.iload_n d_Mo_file_66 rfl ?_
    refine EV.aload_n d_Mo_file_67 rfl ?_
    refine EV.getR fl_Mo_28 d_Mo_file_68 (by first | assumption | rfl) rfl ?_
    refine EV.iload_n d_Mo_file_71 rfl ?_
    refine EV.ialdN d_Mo_file_72 (by first | assumption | rfl) rfl rfl (by decide) (by first | decide | omega) ?_
    refine EV.top (y := nI (σ.1 0).length) (by rw [ho 87 (by omega)]; exact hC.1.1.1) ?_
    refine EV.iastN d_Mo_file_73 (by first | assumption | rfl) rfl rfl (by omega) (by first | decide | omega) ?_
    refine EV.aload_n d_Mo_file_74 rfl ?_
    refine EV.getR fl_Mo_31 d_Mo_file_75 (by first | assumption | rfl) rfl ?_
    refine EV.iload_n d_Mo_file_78 rfl ?_
    refine EV.aload_n d_Mo_file_79 rfl ?_
    refine EV.getI fl_Mo_152 d_Mo_file_80 (by first | assumption | rfl) rfl ?_
    refine EV.top (y := nI σ.2.2.2.2) (by rw [mx_w_ne _ _ _ (by omega), ho 80 (by omega)]; exact hC.2.2.2.2.2) ?_
    refine EV.iastN d_Mo_file_83 (by first | assumption | rfl) rfl rfl (by omega) (by first | decide | omega) ?_
    refine EV.aload_n d_Mo_file_84 rfl ?_
    refine EV.dup d_Mo_file_85 rfl ?_
    refine EV.getI fl_Mo_149 d_Mo_file_86 (by first | assumption | rfl) rfl ?_
    refine EV.top (y := nI σ.2.2.2.1.length) (by rw [mx_w_ne _ _ _ (by omega), mx_w_ne _ _ _ (by omega), ho 80 (by omega)]; exact hC.2.2.2.2.1.1) ?_
    refine EV.iconst (v := nI 1) d_Mo_file_89 (by decide) ?_
    refine EV.iadd d_Mo_file_90 ?_
    refine EV.top (nI_add _ _) ?_
    refine EV.putI fl_Mo_149 d_Mo_file_91 (by first | assumption | rfl) rfl rfl rfl ?_
    refine EV.aload_n d_Mo_file_94 rfl ?_
    refine EV.dup d_Mo_file_95 rfl ?_
    refine EV.getI fl_Mo_152 d_Mo_file_96 (by first | assumption | rfl) rfl ?_
    refine EV.top (y := nI σ.2.2.2.2) (by rw [mx_w_eq, mx_w_ne _ _ _ (by omega), mx_w_ne _ _ _ (by omega), ho 80 (by omega)]; simp only [upd]; rw [if_neg (by decide)]; exact hC.2.2.2.2.2) ?_
    refine EV.iconst (v := nI 1) d_Mo_file_99 (by decide) ?_
    refine EV.iadd d_Mo_file_100 ?_
    refine EV.top (nI_add _ _) ?_
    refine EV.putI fl_Mo_152 d_Mo_file_101 (by first | assumption | rfl) rfl rfl rfl ?_
    refine EV.aload_n d_Mo_file_104 rfl ?_
    refine EV.getI fl_Mo_152 d_Mo_file_105 (by first | assumption | rfl) rfl ?_
    refine EV.top (y := nI (σ.2.2.2.2 + 1)) (by rw [mx_w_eq]; simp [upd]) ?_
    refine EV.iconst (v := nI 1) d_Mo_file_108 (by decide) ?_
    refine EV.isub d_Mo_file_109 ?_
    refine EV.top (y := nI σ.2.2.2.2) (pk_sub (by omega)) ?_
    refine EV.ireturn d_Mo_file_110 ⟨_, rfl, rfl⟩ ⟨rfl, MI_put (xs := σ.1 0) hI hC h12 hl (fun k k0 k1 k2 k3 => by simp [mx_w, va_up, k0, k2, k3, ho k k1]) (fun j j1 j2 => by simp [mx_w, va_up, upd, j1, j2, ho 80 (by omega)]) (by simp [mx_w, va_up, upd]) (by simp [mx_w, va_up, upd]) (fun i hi => by simp [mx_w, va_up]; exact hlo i hi) (fun u hu => by simp [mx_w, va_up, upd, hu, ho 87 (by omega)]) (fun u hu => by simp [mx_w, va_up, upd, hu, ho 88 (by omega)]) (by simp [mx_w, va_up, upd]) ⟨by simp [mx_w, va_up, upd], fun i c hc => ?_⟩, fun q hq => by simp [mx_w, va_up, show ¬ q = 80 by omega, show ¬ q = 87 by omega, show ¬ q = 88 by omega, ho q (by omega)]⟩
    have hil := (List.getElem?_eq_some_iff.mp hc).1
    simp only [mx_w, va_up]
    simp
    rw [hcp i (by omega)]
    exact hC.1.1.2 i c hc
  | succ m ih =>
    intro k D h1 h2 ho hlo hcp
    refine EV.iload_n d_Mo_file_28 rfl ?_
    refine EV.bipush (v := nI 12) d_Mo_file_29 (by decide) ?_
    refine EV.icmp_geN (tgt := 62) d_Mo_file_31 (by decide) rfl rfl (by omega) (by omega) (fun h => absurd h (by omega)) (fun _ => ?_)
    refine EV.aload_n d_Mo_file_34 rfl ?_
    refine EV.getR fl_Mo_25 d_Mo_file_35 (by first | assumption | rfl) rfl ?_
    refine EV.bipush (v := nI 12) d_Mo_file_38 (by decide) ?_
    refine EV.iload_n d_Mo_file_40 rfl ?_
    refine EV.imul d_Mo_file_41 ?_
    refine EV.iload_n d_Mo_file_42 rfl ?_
    refine EV.iadd d_Mo_file_43 ?_
    refine EV.aload_n d_Mo_file_44 rfl ?_
    refine EV.getR fl_Mo_25 d_Mo_file_45 (by first | assumption | rfl) rfl ?_
    refine EV.bipush (v := nI 12) d_Mo_file_48 (by decide) ?_
    refine EV.iload_n d_Mo_file_50 rfl ?_
    refine EV.imul d_Mo_file_51 ?_
    refine EV.iload_n d_Mo_file_52 rfl ?_
    refine EV.iadd d_Mo_file_53 ?_
    refine EV.ialdN d_Mo_file_54 (by first | assumption | rfl) rfl (show _ = nI (12 * 0 + k) from by rw [pk_mul, nI_add]) (by omega) (by first | decide | omega) ?_
    refine EV.iastN d_Mo_file_55 (by first | assumption | rfl) rfl (show _ = nI (12 * (2 + σ.2.2.2.1.length) + k) from by rw [pk_mul, nI_add]) (by omega) (by first | decide | omega) ?_
    refine EV.iincN d_Mo_file_56 rfl (by decide) ?_
    refine EV.goto (tgt := 28) d_Mo_file_59 (by decide) ?_
    refine ih (k + 1) _ (by omega) (by omega) (fun q q1 => by rw [mx_w_ne _ _ _ q1]; exact ho q q1) (fun i hi => by rw [mx_w_eq]; unfold upd; rw [if_neg (by omega)]; exact hlo i hi) (fun i hi => ?_)
    rw [mx_w_eq]
    unfold upd
    by_cases hq : i = k
    · subst hq
      rw [if_pos rfl]
      exact hlo _ (by omega)
    · rw [if_neg (by omega)]
      exact hcp i (by omega)
set_option maxHeartbeats 4000000 in
set_option maxRecDepth 100000 in
theorem sp_Mo_fi0 {G : mx_G} {d : Nat} {S : List mx_Sh} {D : mx_Mem} {σ : sg} (hS : SM S) (hC : MI D σ) (hI : SI σ) : EV G (d + 1) m_Mo_file 0 (mx_lc0 m_Mo_file [.ref 80, .int (nI 0)]) [] S D S (PM D (op_put σ (σ.1 0)).2 (op_put σ (σ.1 0)).1) := by
  obtain ⟨hm0, hm1, hm2, hm3, hm4, hm5, hm6, hm7, hm8, hm9, hm10, hm11, hm12⟩ := id hS
  have hl10 := hI.2.2.2.2.2.1
  show EV _ _ _ _ [some (.ref 80), some (.int (nI 0)), none, none] [] _ _ _ _
  refine EV.aload_n d_Mo_file_0 rfl ?_
  refine EV.iload_n d_Mo_file_1 rfl ?_
  refine EV.V1 cv_Mo_63 d_Mo_file_2 (by first | assumption | rfl) (sp_Mo_isLine) ⟨Nat.le_refl _, Nat.le_refl _⟩ rfl rfl (Nat.le_of_ble_eq_true rfl) (fun rv D1 hp => ?_)
  obtain ⟨rfl, hD⟩ := hp
  obtain rfl := hD.symm
  refine EV.if_eqB (tgt := 17) d_Mo_file_5 (by decide) (fun h => absurd h (by decide)) (fun _ => ?_)
  refine EV.aload_n d_Mo_file_8 rfl ?_
  refine EV.getI fl_Mo_149 d_Mo_file_9 (by first | assumption | rfl) rfl ?_
  refine EV.bipush (v := nI 10) d_Mo_file_12 (by decide) ?_
  refine EV.icmp_neN (tgt := 19) d_Mo_file_14 (by decide) hC.2.2.2.2.1.1 rfl (by omega) (by omega) (fun h14 => ?_) (fun h14 => ?_)
  · refine EV.iconst (v := nI 2) d_Mo_file_19 (by decide) ?_
    refine EV.aload_n d_Mo_file_20 rfl ?_
    refine EV.getI fl_Mo_149 d_Mo_file_21 (by first | assumption | rfl) rfl ?_
    refine EV.top hC.2.2.2.2.1.1 ?_
    refine EV.iadd d_Mo_file_24 ?_
    refine EV.top (nI_add _ _) ?_
    refine EV.istore_n d_Mo_file_25 (by decide) ?_
    refine EV.iconst (v := nI 0) d_Mo_file_26 (by decide) ?_
    refine EV.istore_n d_Mo_file_27 (by decide) ?_
    exact lp_Mo_file0 hS hC hI (by omega) 12 0 D (by omega) rfl (fun _ _ => rfl) (fun _ _ => rfl) (fun i hi => absurd hi (by omega))
  · refine EV.iconst (v := (-1)) d_Mo_file_17 (by decide) ?_
    exact EV.ireturn d_Mo_file_18 ⟨_, rfl, rfl⟩ ⟨by unfold op_put; rw [if_neg (by omega)], by unfold op_put; rw [if_neg (by omega)]; exact hC, fun _ _ => rfl⟩
set_option maxHeartbeats 4000000 in
set_option maxRecDepth 100000 in
theorem lp_Mo_file1 {G : mx_G} {d : Nat} {S : List mx_Sh} {D0 : mx_Mem} {σ : sg} (hS : SM S) (hC : MI D0 σ) (hI : SI σ) (hl : σ.2.2.2.1.length < 10) : ∀ (m k : Nat) (D : mx_Mem), k ≤ 12 → 12 - k = m → (∀ q, ¬ q = 86 → D q = D0 q) → (∀ i, i < 12 * (2 + σ.2.2.2.1.length) → D 86 i = D0 86 i) → (∀ i, i < k → D 86 (12 * (2 + σ.2.2.2.1.length) + i) = D0 86 (12 * 1 + i)) → EV G (d + 1) m_Mo_file 28 [some (.ref 80), some (.int (nI 1)), some (.int (nI (2 + σ.2.2.2.1.length))), some (.int (nI k))] [] S D S (PM D0 (op_put σ (σ.1 1)).2 (op_put σ (σ.1 1)).1) := by
  obtain ⟨hm0, hm1, hm2, hm3, hm4, hm5, hm6, hm7, hm8, hm9, hm10, hm11, hm12⟩ := id hS
  have hop : op_put σ (σ.1 1) = (nI σ.2.2.2.2, (σ.1, σ.2.1, σ.2.2.1, σ.2.2.2.1 ++ [(σ.2.2.2.2, σ.1 1)], σ.2.2.2.2 + 1)) := by unfold op_put; rw [if_pos hl]
  rw [hop]
  have h12 : (σ.1 1).length ≤ 12 := hI.1.2.1
  intro m
  induction m with
  | zero =>
    intro k D h1 h2 ho hlo hcp
    have ek : k = 12 := by omega
    subst ek
    refine EV.iload_n d_Mo_file_28 rfl ?_
    refine EV.bipush (v := nI 12) d_Mo_file_29 (by decide) ?_
    refine EV.icmp_geN (tgt := 62) d_Mo_file_31 (by decide) rfl rfl (by omega) (by omega) (fun _ => ?_) (fun h => absurd h (by omega))
    refine EV.aload_n d_Mo_file_62 rfl ?_
    refine EV.getR fl_Mo_28 d_Mo_file_63 (by first | assumption | rfl) rfl ?_
    refine EV.iload_n d_Mo_file_66 rfl ?_
    refine EV.aload_n d_Mo_file_67 rfl ?_
    refine EV.getR fl_Mo_28 d_Mo_file_68 (by first | assumption | rfl) rfl ?_
    refine EV.iload_n d_Mo_file_71 rfl ?_
    refine EV.ialdN d_Mo_file_72 (by first | assumption | rfl) rfl rfl (by decide) (by first | decide | omega) ?_
    refine EV.top (y := nI (σ.1 1).length) (by rw [ho 87 (by omega)]; exact hC.1.2.1) ?_
    refine EV.iastN d_Mo_file_73 (by first | assumption | rfl) rfl rfl (by omega) (by first | decide | omega) ?_
    refine EV.aload_n d_Mo_file_74 rfl ?_
    refine EV.getR fl_Mo_31 d_Mo_file_75 (by first | assumption | rfl) rfl ?_
    refine EV.iload_n d_Mo_file_78 rfl ?_
    refine EV.aload_n d_Mo_file_79 rfl ?_
    refine EV.getI fl_Mo_152 d_Mo_file_80 (by first | assumption | rfl) rfl ?_
    refine EV.top (y := nI σ.2.2.2.2) (by rw [mx_w_ne _ _ _ (by omega), ho 80 (by omega)]; exact hC.2.2.2.2.2) ?_
    refine EV.iastN d_Mo_file_83 (by first | assumption | rfl) rfl rfl (by omega) (by first | decide | omega) ?_
    refine EV.aload_n d_Mo_file_84 rfl ?_
    refine EV.dup d_Mo_file_85 rfl ?_
    refine EV.getI fl_Mo_149 d_Mo_file_86 (by first | assumption | rfl) rfl ?_
    refine EV.top (y := nI σ.2.2.2.1.length) (by rw [mx_w_ne _ _ _ (by omega), mx_w_ne _ _ _ (by omega), ho 80 (by omega)]; exact hC.2.2.2.2.1.1) ?_
    refine EV.iconst (v := nI 1) d_Mo_file_89 (by decide) ?_
    refine EV.iadd d_Mo_file_90 ?_
    refine EV.top (nI_add _ _) ?_
    refine EV.putI fl_Mo_149 d_Mo_file_91 (by first | assumption | rfl) rfl rfl rfl ?_
    refine EV.aload_n d_Mo_file_94 rfl ?_
    refine EV.dup d_Mo_file_95 rfl ?_
    refine EV.getI fl_Mo_152 d_Mo_file_96 (by first | assumption | rfl) rfl ?_
    refine EV.top (y := nI σ.2.2.2.2) (by rw [mx_w_eq, mx_w_ne _ _ _ (by omega), mx_w_ne _ _ _ (by omega), ho 80 (by omega)]; simp only [upd]; rw [if_neg (by decide)]; exact hC.2.2.2.2.2) ?_
    refine EV.iconst (v := nI 1) d_Mo_file_99 (by decide) ?_
    refine EV.iadd d_Mo_file_100 ?_
    refine EV.top (nI_add _ _) ?_
    refine EV.putI fl_Mo_152 d_Mo_file_101 (by first | assumption | rfl) rfl rfl rfl ?_
    refine EV.aload_n d_Mo_file_104 rfl ?_
    refine EV.getI fl_Mo_152 d_Mo_file_105 (by first | assumption | rfl) rfl ?_
    refine EV.top (y := nI (σ.2.2.2.2 + 1)) (by rw [mx_w_eq]; simp [upd]) ?_
    refine EV.iconst (v := nI 1) d_Mo_file_108 (by decide) ?_
    refine EV.isub d_Mo_file_109 ?_
    refine EV.top (y := nI σ.2.2.2.2) (pk_sub (by omega)) ?_
    refine EV.ireturn d_Mo_file_110 ⟨_, rfl, rfl⟩ ⟨rfl, MI_put (xs := σ.1 1) hI hC h12 hl (fun k k0 k1 k2 k3 => by simp [mx_w, va_up, k0, k2, k3, ho k k1]) (fun j j1 j2 => by simp [mx_w, va_up, upd, j1, j2, ho 80 (by omega)]) (by simp [mx_w, va_up, upd]) (by simp [mx_w, va_up, upd]) (fun i hi => by simp [mx_w, va_up]; exact hlo i hi) (fun u hu => by simp [mx_w, va_up, upd, hu, ho 87 (by omega)]) (fun u hu => by simp [mx_w, va_up, upd, hu, ho 88 (by omega)]) (by simp [mx_w, va_up, upd]) ⟨by simp [mx_w, va_up, upd], fun i c hc => ?_⟩, fun q hq => by simp [mx_w, va_up, show ¬ q = 80 by omega, show ¬ q = 87 by omega, show ¬ q = 88 by omega, ho q (by omega)]⟩
    have hil := (List.getElem?_eq_some_iff.mp hc).1
    simp only [mx_w, va_up]
    simp
    rw [hcp i (by omega)]
    exact hC.1.2.2 i c hc
  | succ m ih =>
    intro k D h1 h2 ho hlo hcp
    refine EV.iload_n d_Mo_file_28 rfl ?_
    refine EV.bipush (v := nI 12) d_Mo_file_29 (by decide) ?_
    refine EV.icmp_geN (tgt := 62) d_Mo_file_31 (by decide) rfl rfl (by omega) (by omega) (fun h => absurd h (by omega)) (fun _ => ?_)
    refine EV.aload_n d_Mo_file_34 rfl ?_
    refine EV.getR fl_Mo_25 d_Mo_file_35 (by first | assumption | rfl) rfl ?_
    refine EV.bipush (v := nI 12) d_Mo_file_38 (by decide) ?_
    refine EV.iload_n d_Mo_file_40 rfl ?_
    refine EV.imul d_Mo_file_41 ?_
    refine EV.iload_n d_Mo_file_42 rfl ?_
    refine EV.iadd d_Mo_file_43 ?_
    refine EV.aload_n d_Mo_file_44 rfl ?_
    refine EV.getR fl_Mo_25 d_Mo_file_45 (by first | assumption | rfl) rfl ?_
    refine EV.bipush (v := nI 12) d_Mo_file_48 (by decide) ?_
    refine EV.iload_n d_Mo_file_50 rfl ?_
    refine EV.imul d_Mo_file_51 ?_
    refine EV.iload_n d_Mo_file_52 rfl ?_
    refine EV.iadd d_Mo_file_53 ?_
    refine EV.ialdN d_Mo_file_54 (by first | assumption | rfl) rfl (show _ = nI (12 * 1 + k) from by rw [pk_mul, nI_add]) (by omega) (by first | decide | omega) ?_
    refine EV.iastN d_Mo_file_55 (by first | assumption | rfl) rfl (show _ = nI (12 * (2 + σ.2.2.2.1.length) + k) from by rw [pk_mul, nI_add]) (by omega) (by first | decide | omega) ?_
    refine EV.iincN d_Mo_file_56 rfl (by decide) ?_
    refine EV.goto (tgt := 28) d_Mo_file_59 (by decide) ?_
    refine ih (k + 1) _ (by omega) (by omega) (fun q q1 => by rw [mx_w_ne _ _ _ q1]; exact ho q q1) (fun i hi => by rw [mx_w_eq]; unfold upd; rw [if_neg (by omega)]; exact hlo i hi) (fun i hi => ?_)
    rw [mx_w_eq]
    unfold upd
    by_cases hq : i = k
    · subst hq
      rw [if_pos rfl]
      exact hlo _ (by omega)
    · rw [if_neg (by omega)]
      exact hcp i (by omega)
set_option maxHeartbeats 4000000 in
set_option maxRecDepth 100000 in
theorem sp_Mo_fi1 {G : mx_G} {d : Nat} {S : List mx_Sh} {D : mx_Mem} {σ : sg} (hS : SM S) (hC : MI D σ) (hI : SI σ) : EV G (d + 1) m_Mo_file 0 (mx_lc0 m_Mo_file [.ref 80, .int (nI 1)]) [] S D S (PM D (op_put σ (σ.1 1)).2 (op_put σ (σ.1 1)).1) := by
  obtain ⟨hm0, hm1, hm2, hm3, hm4, hm5, hm6, hm7, hm8, hm9, hm10, hm11, hm12⟩ := id hS
  have hl10 := hI.2.2.2.2.2.1
  show EV _ _ _ _ [some (.ref 80), some (.int (nI 1)), none, none] [] _ _ _ _
  refine EV.aload_n d_Mo_file_0 rfl ?_
  refine EV.iload_n d_Mo_file_1 rfl ?_
  refine EV.V1 cv_Mo_63 d_Mo_file_2 (by first | assumption | rfl) (sp_Mo_isLine) ⟨Nat.le_refl _, Nat.le_refl _⟩ rfl rfl (Nat.le_of_ble_eq_true rfl) (fun rv D1 hp => ?_)
  obtain ⟨rfl, hD⟩ := hp
  obtain rfl := hD.symm
  refine EV.if_eqB (tgt := 17) d_Mo_file_5 (by decide) (fun h => absurd h (by decide)) (fun _ => ?_)
  refine EV.aload_n d_Mo_file_8 rfl ?_
  refine EV.getI fl_Mo_149 d_Mo_file_9 (by first | assumption | rfl) rfl ?_
  refine EV.bipush (v := nI 10) d_Mo_file_12 (by decide) ?_
  refine EV.icmp_neN (tgt := 19) d_Mo_file_14 (by decide) hC.2.2.2.2.1.1 rfl (by omega) (by omega) (fun h14 => ?_) (fun h14 => ?_)
  · refine EV.iconst (v := nI 2) d_Mo_file_19 (by decide) ?_
    refine EV.aload_n d_Mo_file_20 rfl ?_
    refine EV.getI fl_Mo_149 d_Mo_file_21 (by first | assumption | rfl) rfl ?_
    refine EV.top hC.2.2.2.2.1.1 ?_
    refine EV.iadd d_Mo_file_24 ?_
    refine EV.top (nI_add _ _) ?_
    refine EV.istore_n d_Mo_file_25 (by decide) ?_
    refine EV.iconst (v := nI 0) d_Mo_file_26 (by decide) ?_
    refine EV.istore_n d_Mo_file_27 (by decide) ?_
    exact lp_Mo_file1 hS hC hI (by omega) 12 0 D (by omega) rfl (fun _ _ => rfl) (fun _ _ => rfl) (fun i hi => absurd hi (by omega))
  · refine EV.iconst (v := (-1)) d_Mo_file_17 (by decide) ?_
    exact EV.ireturn d_Mo_file_18 ⟨_, rfl, rfl⟩ ⟨by unfold op_put; rw [if_neg (by omega)], by unfold op_put; rw [if_neg (by omega)]; exact hC, fun _ _ => rfl⟩
set_option maxHeartbeats 4000000 in
set_option maxRecDepth 100000 in
theorem sp_Mo_fiN {G : mx_G} {d : Nat} {S : List mx_Sh} {D : mx_Mem} {σ : sg} (hS : SM S) (hC : MI D σ) (hI : SI σ) {x : Int32} (hx : ¬ x = nI 0 ∧ ¬ x = nI 1) : EV G (d + 1) m_Mo_file 0 (mx_lc0 m_Mo_file [.ref 80, .int x]) [] S D S (PM D σ (-1)) := by
  obtain ⟨hm0, hm1, hm2, hm3, hm4, hm5, hm6, hm7, hm8, hm9, hm10, hm11, hm12⟩ := id hS
  show EV _ _ _ _ [some (.ref 80), some (.int x), none, none] [] _ _ _ _
  refine EV.aload_n d_Mo_file_0 rfl ?_
  refine EV.iload_n d_Mo_file_1 rfl ?_
  refine EV.V1 cv_Mo_63 d_Mo_file_2 (by first | assumption | rfl) (sp_Mo_isLine) ⟨Nat.le_refl _, Nat.le_refl _⟩ rfl rfl (Nat.le_of_ble_eq_true rfl) (fun rv D1 hp => ?_)
  obtain ⟨rfl, hD⟩ := hp
  obtain rfl := hD.symm
  refine EV.if_eqB (tgt := 17) d_Mo_file_5 (by decide) (fun _ => ?_) (fun h => by have := of_decide_eq_true h; exact (this.elim hx.1 hx.2).elim)
  refine EV.iconst (v := (-1)) d_Mo_file_17 (by decide) ?_
  exact EV.ireturn d_Mo_file_18 ⟨_, rfl, rfl⟩ ⟨rfl, hC, fun _ _ => rfl⟩
set_option maxHeartbeats 4000000 in
set_option maxRecDepth 100000 in
theorem rf_file {G : mx_G} {d : Nat} {S : List mx_Sh} {D : mx_Mem} {σ : sg} (hS : SM S) (hC : MI D σ) (hI : SI σ) {x : Int32} : EV G (d + 1) m_Mo_file 0 (mx_lc0 m_Mo_file [.ref 80, .int x]) [] S D S (PM D (op_file σ x).2 (op_file σ x).1) := by
  unfold op_file
  by_cases h0 : x = nI 0
  · subst h0; rw [if_pos rfl]; exact sp_Mo_fi0 hS hC hI
  · by_cases h1 : x = nI 1
    · subst h1; rw [if_neg h0, if_pos rfl]; exact sp_Mo_fi1 hS hC hI
    · rw [if_neg h0, if_neg h1]; exact sp_Mo_fiN hS hC hI ⟨h0, h1⟩
set_option maxHeartbeats 4000000 in
set_option maxRecDepth 100000 in
theorem lp_Mo_un3 {G : mx_G} {d : Nat} {S : List mx_Sh} {D1 : mx_Mem} {f : Nat → Int32} {p t : Nat} {v1 v2 : Option Value} {Post : Option Value → mx_Mem → Prop} (hS : SM S) (ht : t < 11) (hp : p ≤ 12 * t) (K : ∀ (D : mx_Mem) (v4 : Option Value), (∀ q, ¬ q = 86 → D q = D1 q) → D 86 = fx_b f p (12 * t + 12) → EV G d m_Mo_unfile 97 [some (.ref 80), v1, v2, some (.int (nI t)), v4] [] S D S Post) : ∀ (m k : Nat) (D : mx_Mem), k ≤ 12 → 12 - k = m → (∀ q, ¬ q = 86 → D q = D1 q) → D 86 = fx_b f p (12 * t + k) → EV G d m_Mo_unfile 57 [some (.ref 80), v1, v2, some (.int (nI t)), some (.int (nI k))] [] S D S Post := by
  obtain ⟨hm0, hm1, hm2, hm3, hm4, hm5, hm6, hm7, hm8, hm9, hm10, hm11, hm12⟩ := id hS
  intro m
  induction m with
  | zero =>
    intro k D h1 h2 ho hb
    have ek : k = 12 := by omega
    subst ek
    refine EV.iload d_Mo_unfile_57 rfl ?_
    refine EV.bipush (v := nI 12) d_Mo_unfile_59 (by decide) ?_
    refine EV.icmp_geN (tgt := 97) d_Mo_unfile_61 (by decide) rfl rfl (by omega) (by omega) (fun _ => ?_) (fun h => absurd h (by omega))
    exact K D _ ho hb
  | succ m ih =>
    intro k D h1 h2 ho hb
    refine EV.iload d_Mo_unfile_57 rfl ?_
    refine EV.bipush (v := nI 12) d_Mo_unfile_59 (by decide) ?_
    refine EV.icmp_geN (tgt := 97) d_Mo_unfile_61 (by decide) rfl rfl (by omega) (by omega) (fun h => absurd h (by omega)) (fun _ => ?_)
    refine EV.aload_n d_Mo_unfile_64 rfl ?_
    refine EV.getR fl_Mo_25 d_Mo_unfile_65 (by first | assumption | rfl) rfl ?_
    refine EV.bipush (v := nI 12) d_Mo_unfile_68 (by decide) ?_
    refine EV.iload_n d_Mo_unfile_70 rfl ?_
    refine EV.imul d_Mo_unfile_71 ?_
    refine EV.iload d_Mo_unfile_72 rfl ?_
    refine EV.iadd d_Mo_unfile_74 ?_
    refine EV.aload_n d_Mo_unfile_75 rfl ?_
    refine EV.getR fl_Mo_25 d_Mo_unfile_76 (by first | assumption | rfl) rfl ?_
    refine EV.bipush (v := nI 12) d_Mo_unfile_79 (by decide) ?_
    refine EV.iload_n d_Mo_unfile_81 rfl ?_
    refine EV.imul d_Mo_unfile_82 ?_
    refine EV.bipush (v := nI 12) d_Mo_unfile_83 (by decide) ?_
    refine EV.iadd d_Mo_unfile_85 ?_
    refine EV.iload d_Mo_unfile_86 rfl ?_
    refine EV.iadd d_Mo_unfile_88 ?_
    refine EV.ialdN d_Mo_unfile_89 (by first | assumption | rfl) rfl (show _ = nI (12 * t + k + 12) from by rw [pk_mul, nI_add, nI_add]; congr 1; omega) (by omega) (by first | decide | omega) ?_
    refine EV.iastN d_Mo_unfile_90 (by first | assumption | rfl) rfl (show _ = nI (12 * t + k) from by rw [pk_mul, nI_add]) (by omega) (by first | decide | omega) ?_
    refine EV.iincN d_Mo_unfile_91 rfl (by decide) ?_
    refine EV.goto (tgt := 57) d_Mo_unfile_94 (by decide) ?_
    refine ih (k + 1) _ (by omega) (by omega) (fun q q1 => by rw [mx_w_ne _ _ _ q1]; exact ho q q1) ?_
    rw [mx_w_eq, hb]
    exact fx_b_s f (by omega)
set_option maxHeartbeats 4000000 in
set_option maxRecDepth 100000 in
theorem lp_Mo_un2 {G : mx_G} {d : Nat} {S : List mx_Sh} {D0 : mx_Mem} {σ : sg} {a : Nat} {v1 v2 : Option Value} (hS : SM S) (hC : MI D0 σ) (hI : SI σ) (ha : a < σ.2.2.2.1.length) : ∀ (m i : Nat) (D : mx_Mem) (v4 : Option Value), a ≤ i → i + 1 ≤ σ.2.2.2.1.length → σ.2.2.2.1.length - (i + 1) = m → (∀ q, ¬ q = 86 → ¬ q = 87 → ¬ q = 88 → D q = D0 q) → D 86 = fx_b (D0 86) (12 * (2 + a)) (12 * (2 + i)) → D 87 = fx_dl (D0 87) (2 + a) (2 + i + 1) → D 88 = fx_dl (D0 88) (2 + a) (2 + i + 1) → EV G d m_Mo_unfile 44 [some (.ref 80), v1, v2, some (.int (nI (2 + i))), v4] [] S D S (PM D0 (σ.1, σ.2.1, σ.2.2.1, σ.2.2.2.1.eraseIdx a, σ.2.2.2.2) (nI 1)) := by
  obtain ⟨hm0, hm1, hm2, hm3, hm4, hm5, hm6, hm7, hm8, hm9, hm10, hm11, hm12⟩ := id hS
  have hl10 := hI.2.2.2.2.2.1
  have hf0 := hC.2.2.2.2.1.1
  intro m
  induction m with
  | zero =>
    intro i D v4 h0 h1 h2 ho h86 h87 h88
    have hfl : D 80 11 = nI σ.2.2.2.1.length := by rw [ho 80 (by omega) (by omega) (by omega)]; exact hf0
    have ei : i = σ.2.2.2.1.length - 1 := by omega
    rw [show 2 + i + 1 = 2 + σ.2.2.2.1.length by omega] at h87 h88
    rw [ei] at h86
    refine EV.iload_n d_Mo_unfile_44 rfl ?_
    refine EV.iconst (v := nI 1) d_Mo_unfile_45 (by decide) ?_
    refine EV.aload_n d_Mo_unfile_46 rfl ?_
    refine EV.getI fl_Mo_149 d_Mo_unfile_47 (by first | assumption | rfl) rfl ?_
    refine EV.iadd d_Mo_unfile_50 ?_
    refine EV.icmp_geN (tgt := 131) d_Mo_unfile_51 (by decide) rfl (show _ = nI (1 + σ.2.2.2.1.length) from by rw [hfl, nI_add]) (by omega) (by omega) (fun _ => ?_) (fun h => absurd h (by omega))
    refine EV.aload_n d_Mo_unfile_131 rfl ?_
    refine EV.dup d_Mo_unfile_132 rfl ?_
    refine EV.getI fl_Mo_149 d_Mo_unfile_133 (by first | assumption | rfl) rfl ?_
    refine EV.top hfl ?_
    refine EV.iconst (v := nI 1) d_Mo_unfile_136 (by decide) ?_
    refine EV.isub d_Mo_unfile_137 ?_
    refine EV.top (y := nI (σ.2.2.2.1.length - 1)) (pk_sub (by omega)) ?_
    refine EV.putI fl_Mo_149 d_Mo_unfile_138 (by first | assumption | rfl) rfl rfl rfl ?_
    refine EV.iconst (v := nI 1) d_Mo_unfile_141 (by decide) ?_
    exact EV.ireturn d_Mo_unfile_142 ⟨_, rfl, rfl⟩ ⟨rfl, MI_out hI hC ha (fun k k0 k1 k2 k3 => by rw [mx_w_ne _ _ _ k0]; exact ho k k1 k2 k3) (fun j hj => by rw [mx_w_eq, ho 80 (by omega) (by omega) (by omega)]; simp [upd, hj]) (by rw [mx_w_eq]; simp [upd]) (by rw [mx_w_ne _ _ _ (by omega)]; exact h86) (by rw [mx_w_ne _ _ _ (by omega)]; exact h87) (by rw [mx_w_ne _ _ _ (by omega)]; exact h88), fun q hq => by rw [mx_w_ne _ _ _ (by omega)]; exact ho q (by omega) (by omega) (by omega)⟩
  | succ m ih =>
    intro i D v4 h0 h1 h2 ho h86 h87 h88
    have hfl : D 80 11 = nI σ.2.2.2.1.length := by rw [ho 80 (by omega) (by omega) (by omega)]; exact hf0
    refine EV.iload_n d_Mo_unfile_44 rfl ?_
    refine EV.iconst (v := nI 1) d_Mo_unfile_45 (by decide) ?_
    refine EV.aload_n d_Mo_unfile_46 rfl ?_
    refine EV.getI fl_Mo_149 d_Mo_unfile_47 (by first | assumption | rfl) rfl ?_
    refine EV.iadd d_Mo_unfile_50 ?_
    refine EV.icmp_geN (tgt := 131) d_Mo_unfile_51 (by decide) rfl (show _ = nI (1 + σ.2.2.2.1.length) from by rw [hfl, nI_add]) (by omega) (by omega) (fun h => absurd h (by omega)) (fun _ => ?_)
    refine EV.iconst (v := nI 0) d_Mo_unfile_54 (by decide) ?_
    refine EV.istore d_Mo_unfile_55 (by decide) ?_
    refine lp_Mo_un3 (D1 := D) (f := D0 86) (p := 12 * (2 + a)) hS (by omega) (by omega) ?_ 12 0 D (by omega) rfl (fun _ _ => rfl) h86
    intro D2 w4 hd1 hd2
    refine EV.aload_n d_Mo_unfile_97 rfl ?_
    refine EV.getR fl_Mo_28 d_Mo_unfile_98 (by first | assumption | rfl) rfl ?_
    refine EV.iload_n d_Mo_unfile_101 rfl ?_
    refine EV.aload_n d_Mo_unfile_102 rfl ?_
    refine EV.getR fl_Mo_28 d_Mo_unfile_103 (by first | assumption | rfl) rfl ?_
    refine EV.iload_n d_Mo_unfile_106 rfl ?_
    refine EV.iconst (v := nI 1) d_Mo_unfile_107 (by decide) ?_
    refine EV.iadd d_Mo_unfile_108 ?_
    refine EV.ialdN d_Mo_unfile_109 (by first | assumption | rfl) rfl (nI_1 _) (by omega) (by first | decide | omega) ?_
    refine EV.iastN d_Mo_unfile_110 (by first | assumption | rfl) rfl rfl (by omega) (by first | decide | omega) ?_
    refine EV.aload_n d_Mo_unfile_111 rfl ?_
    refine EV.getR fl_Mo_31 d_Mo_unfile_112 (by first | assumption | rfl) rfl ?_
    refine EV.iload_n d_Mo_unfile_115 rfl ?_
    refine EV.aload_n d_Mo_unfile_116 rfl ?_
    refine EV.getR fl_Mo_31 d_Mo_unfile_117 (by first | assumption | rfl) rfl ?_
    refine EV.iload_n d_Mo_unfile_120 rfl ?_
    refine EV.iconst (v := nI 1) d_Mo_unfile_121 (by decide) ?_
    refine EV.iadd d_Mo_unfile_122 ?_
    refine EV.ialdN d_Mo_unfile_123 (by first | assumption | rfl) rfl (nI_1 _) (by omega) (by first | decide | omega) ?_
    refine EV.iastN d_Mo_unfile_124 (by first | assumption | rfl) rfl rfl (by omega) (by first | decide | omega) ?_
    refine EV.iincN d_Mo_unfile_125 rfl (by decide) ?_
    refine EV.goto (tgt := 44) d_Mo_unfile_128 (by decide) ?_
    refine ih (i + 1) _ _ (by omega) (by omega) (by omega) ?_ ?_ ?_ ?_
    · intro q q1 q2 q3
      rw [mx_w_ne _ _ _ q3, mx_w_ne _ _ _ q2, hd1 q q1]
      exact ho q q1 q2 q3
    · rw [mx_w_ne _ _ _ (by omega), mx_w_ne _ _ _ (by omega), hd2, show 12 * (2 + i) + 12 = 12 * (2 + (i + 1)) by omega]
    · rw [mx_w_ne _ _ _ (by omega), mx_w_eq, hd1 87 (by omega), h87]
      exact fx_dl_s _ (by omega)
    · rw [mx_w_eq, mx_w_ne _ _ _ (by omega), hd1 88 (by omega), h88]
      exact fx_dl_s _ (by omega)
set_option maxHeartbeats 4000000 in
set_option maxRecDepth 100000 in
theorem lp_Mo_un1 {G : mx_G} {d : Nat} {S : List mx_Sh} {D : mx_Mem} {σ : sg} (hS : SM S) (hC : MI D σ) (hI : SI σ) {x : Int32} (hN : σ.2.2.2.2 ≤ 2 ^ 31) : ∀ (m i : Nat) (r : Int32) (v4 : Option Value), i ≤ σ.2.2.2.1.length → σ.2.2.2.1.length - i = m → ((∃ (a : Nat) (e : Nat × List Nat), a < i ∧ σ.2.2.2.1[a]? = some e ∧ nI e.1 = x ∧ r = nI (2 + a)) ∨ ((∀ (j : Nat) (e : Nat × List Nat), j < i → σ.2.2.2.1[j]? = some e → ¬ nI e.1 = x) ∧ r = -1)) → EV G d m_Mo_unfile 4 [some (.ref 80), some (.int x), some (.int r), some (.int (nI (2 + i))), v4] [] S D S (PM D (op_unf σ x).2 (op_unf σ x).1) := by
  obtain ⟨hm0, hm1, hm2, hm3, hm4, hm5, hm6, hm7, hm8, hm9, hm10, hm11, hm12⟩ := id hS
  have hl10 := hI.2.2.2.2.2.1
  have hfl := hC.2.2.2.2.1.1
  intro m
  induction m with
  | zero =>
    intro i r v4 h1 h2 hr
    have hil : σ.2.2.2.1.length ≤ i := by clear hr; omega
    rcases hr with ⟨a, e, hai, he, hx, rfl⟩ | ⟨hn, rfl⟩
    · have hal := (List.getElem?_eq_some_iff.mp he).1
      have hfi : σ.2.2.2.1.findIdx? (fun e => decide (nI e.1 = x)) = some a := by
        rw [List.findIdx?_eq_some_iff_getElem]
        refine ⟨hal, by rw [(List.getElem?_eq_some_iff.mp he).2]; exact decide_eq_true hx, fun j hj => ?_⟩
        have hje : σ.2.2.2.1[j]? = some σ.2.2.2.1[j] := List.getElem?_eq_getElem (by omega)
        intro hq
        have hb1 := (hI.2.2.2.2.2.2.1 _ (List.mem_of_getElem? hje)).2
        have hb2 := (hI.2.2.2.2.2.2.1 _ (List.mem_of_getElem? he)).2
        have := hI.2.2.2.2.2.2.2 j a _ e hje he ((nI_eq (by omega) (by omega)).mp ((of_decide_eq_true hq).trans hx.symm))
        omega
      have hop : op_unf σ x = (nI 1, (σ.1, σ.2.1, σ.2.2.1, σ.2.2.2.1.eraseIdx a, σ.2.2.2.2)) := by unfold op_unf; rw [hfi]
      rw [hop]
      refine EV.iload_n d_Mo_unfile_4 rfl ?_
      refine EV.iconst (v := nI 2) d_Mo_unfile_5 (by decide) ?_
      refine EV.aload_n d_Mo_unfile_6 rfl ?_
      refine EV.getI fl_Mo_149 d_Mo_unfile_7 (by first | assumption | rfl) rfl ?_
      refine EV.iadd d_Mo_unfile_10 ?_
      refine EV.icmp_geN (tgt := 36) d_Mo_unfile_11 (by decide) rfl (show _ = nI (2 + σ.2.2.2.1.length) from by rw [hfl, nI_add]) (by omega) (by omega) (fun _ => ?_) (fun h => absurd h (by omega))
      refine EV.iload_n d_Mo_unfile_36 rfl ?_
      refine EV.if_geN (tgt := 42) d_Mo_unfile_37 rfl (by omega) (by decide) ?_
      refine EV.iload_n d_Mo_unfile_42 rfl ?_
      refine EV.istore_n d_Mo_unfile_43 (by decide) ?_
      exact lp_Mo_un2 hS hC hI hal (σ.2.2.2.1.length - (a + 1)) a D _ (by omega) (by omega) rfl (fun _ _ _ _ => rfl) (fx_b_0 _ _).symm (fx_dl_0 _ _).symm (fx_dl_0 _ _).symm
    · have hfi : σ.2.2.2.1.findIdx? (fun e => decide (nI e.1 = x)) = none := by
        rw [List.findIdx?_eq_none_iff]
        intro e he
        obtain ⟨j, hj⟩ := List.getElem?_of_mem he
        have hjl := (List.getElem?_eq_some_iff.mp hj).1
        exact decide_eq_false (hn j e (by omega) hj)
      have hop : op_unf σ x = (nI 0, σ) := by unfold op_unf; rw [hfi]
      rw [hop]
      refine EV.iload_n d_Mo_unfile_4 rfl ?_
      refine EV.iconst (v := nI 2) d_Mo_unfile_5 (by decide) ?_
      refine EV.aload_n d_Mo_unfile_6 rfl ?_
      refine EV.getI fl_Mo_149 d_Mo_unfile_7 (by first | assumption | rfl) rfl ?_
      refine EV.iadd d_Mo_unfile_10 ?_
      refine EV.icmp_geN (tgt := 36) d_Mo_unfile_11 (by decide) rfl (show _ = nI (2 + σ.2.2.2.1.length) from by rw [hfl, nI_add]) (by omega) (by omega) (fun _ => ?_) (fun h => absurd h (by omega))
      refine EV.iload_n d_Mo_unfile_36 rfl ?_
      refine EV.if_ge (tgt := 42) d_Mo_unfile_37 (by decide) (fun h => absurd h (by decide)) (fun _ => ?_)
      refine EV.iconst (v := nI 0) d_Mo_unfile_40 (by decide) ?_
      exact EV.ireturn d_Mo_unfile_41 ⟨_, rfl, rfl⟩ ⟨rfl, hC, fun _ _ => rfl⟩
  | succ m ih =>
    intro i r v4 h1 h2 hr
    have hil : i < σ.2.2.2.1.length := by clear hr; omega
    have hm92 : σ.2.2.2.1.length - (i + 1) = m := by clear hr; omega
    obtain ⟨e, he⟩ : ∃ e, σ.2.2.2.1[i]? = some e := ⟨σ.2.2.2.1[i], List.getElem?_eq_getElem hil⟩
    have hnv := (hC.2.2.2.2.1.2 i e he).1
    refine EV.iload_n d_Mo_unfile_4 rfl ?_
    refine EV.iconst (v := nI 2) d_Mo_unfile_5 (by decide) ?_
    refine EV.aload_n d_Mo_unfile_6 rfl ?_
    refine EV.getI fl_Mo_149 d_Mo_unfile_7 (by first | assumption | rfl) rfl ?_
    refine EV.iadd d_Mo_unfile_10 ?_
    refine EV.icmp_geN (tgt := 36) d_Mo_unfile_11 (by decide) rfl (show _ = nI (2 + σ.2.2.2.1.length) from by rw [hfl, nI_add]) (by omega) (by omega) (fun h => absurd h (by omega)) (fun _ => ?_)
    refine EV.aload_n d_Mo_unfile_14 rfl ?_
    refine EV.getR fl_Mo_31 d_Mo_unfile_15 (by first | assumption | rfl) rfl ?_
    refine EV.iload_n d_Mo_unfile_18 rfl ?_
    refine EV.ialdN d_Mo_unfile_19 (by first | assumption | rfl) rfl rfl (by omega) (by first | decide | omega) ?_
    refine EV.top hnv ?_
    refine EV.iload_n d_Mo_unfile_20 rfl ?_
    refine EV.icmp_ne (tgt := 28) d_Mo_unfile_21 (by decide) (fun h21 => ?_) (fun h21 => ?_)
    · refine EV.iload_n d_Mo_unfile_28 rfl ?_
      refine EV.istore_n d_Mo_unfile_29 (by decide) ?_
      refine EV.iincN d_Mo_unfile_30 rfl (by decide) ?_
      refine EV.goto (tgt := 4) d_Mo_unfile_33 (by decide) ?_
      first
      | exact ih (i + 1) r _ hil hm92 (by
          rcases hr with ⟨a, e', ha, h3, h4, h5⟩ | ⟨h3, h4⟩
          · exact Or.inl ⟨a, e', by omega, h3, h4, h5⟩
          · refine Or.inr ⟨fun j e' hj he' => ?_, h4⟩
            rcases Nat.lt_or_ge j i with q | q
            · exact h3 j e' q he'
            · rw [show j = i by omega, he] at he'; cases he'; exact h21)
      | exact ih (i + 1) (nI (2 + i)) _ hil hm92 (Or.inl ⟨i, e, by omega, he, h21, rfl⟩)
    · refine EV.iload_n d_Mo_unfile_24 rfl ?_
      refine EV.goto (tgt := 29) d_Mo_unfile_25 (by decide) ?_
      refine EV.istore_n d_Mo_unfile_29 (by decide) ?_
      refine EV.iincN d_Mo_unfile_30 rfl (by decide) ?_
      refine EV.goto (tgt := 4) d_Mo_unfile_33 (by decide) ?_
      first
      | exact ih (i + 1) r _ hil hm92 (by
          rcases hr with ⟨a, e', ha, h3, h4, h5⟩ | ⟨h3, h4⟩
          · exact Or.inl ⟨a, e', by omega, h3, h4, h5⟩
          · refine Or.inr ⟨fun j e' hj he' => ?_, h4⟩
            rcases Nat.lt_or_ge j i with q | q
            · exact h3 j e' q he'
            · rw [show j = i by omega, he] at he'; cases he'; exact h21)
      | exact ih (i + 1) (nI (2 + i)) _ hil hm92 (Or.inl ⟨i, e, by omega, he, h21, rfl⟩)
set_option maxHeartbeats 4000000 in
set_option maxRecDepth 100000 in
theorem rf_unf {G : mx_G} {d : Nat} {S : List mx_Sh} {D : mx_Mem} {σ : sg} (hS : SM S) (hC : MI D σ) (hI : SI σ) {x : Int32} (hN : σ.2.2.2.2 ≤ 2 ^ 31) : EV G d m_Mo_unfile 0 (mx_lc0 m_Mo_unfile [.ref 80, .int x]) [] S D S (PM D (op_unf σ x).2 (op_unf σ x).1) := by
  obtain ⟨hm0, hm1, hm2, hm3, hm4, hm5, hm6, hm7, hm8, hm9, hm10, hm11, hm12⟩ := id hS
  show EV _ _ _ _ [some (.ref 80), some (.int x), none, none, none] [] _ _ _ _
  refine EV.iconst (v := (-1)) d_Mo_unfile_0 (by decide) ?_
  refine EV.istore_n d_Mo_unfile_1 (by decide) ?_
  refine EV.iconst (v := nI 2) d_Mo_unfile_2 (by decide) ?_
  refine EV.istore_n d_Mo_unfile_3 (by decide) ?_
  exact lp_Mo_un1 hS hC hI hN σ.2.2.2.1.length 0 (-1) _ (by omega) rfl (Or.inr ⟨fun j e hj => absurd hj (by omega), rfl⟩)
