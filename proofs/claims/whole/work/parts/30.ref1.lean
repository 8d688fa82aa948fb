/-! the reference: its cells are 80 to 92 -/
def SM (S : List mx_Sh) : Prop := S[80]? = some (.inl (7, [none, some (some 81), some (some 82), none, some (some 83), some (some 84), some (some 85), none, some (some 86), some (some 87), some (some 88), none, none, none, none, none, some (some 89), none, some (some 90), none, none, some (some 91), some (some 92)])) ∧ S[81]? = some (.inr (.inl (0, 30))) ∧ S[82]? = some (.inr (.inl (0, 30))) ∧ S[83]? = some (.inr (.inl (0, 30))) ∧ S[84]? = some (.inr (.inl (0, 30))) ∧ S[85]? = some (.inr (.inl (0, 24))) ∧ S[86]? = some (.inr (.inl (0, 144))) ∧ S[87]? = some (.inr (.inl (0, 12))) ∧ S[88]? = some (.inr (.inl (0, 12))) ∧ S[89]? = some (.inr (.inl (0, 12))) ∧ S[90]? = some (.inr (.inl (0, 48))) ∧ S[91]? = some (.inr (.inl (0, 768))) ∧ S[92]? = some (.inr (.inl (0, 12)))
/-- text number t -/
def TX (D : mx_Mem) (t : Nat) (xs : List Nat) : Prop := D 87 t = nI xs.length ∧ ∀ (i c : Nat), xs[i]? = some c → D 86 (12 * t + i) = nI c
def MF (D : mx_Mem) (fl : ps_F) : Prop := D 80 11 = nI fl.length ∧ ∀ (i : Nat) (e : Nat × List Nat), fl[i]? = some e → D 88 (2 + i) = nI e.1 ∧ TX D (2 + i) e.2
def MI (D : mx_Mem) (σ : sg) : Prop := (TX D 0 (σ.1 0) ∧ TX D 1 (σ.1 1)) ∧ (D 80 7 = nI (σ.1 2).length ∧ ar (D 85) (σ.1 2)) ∧ (D 80 0 = nI σ.2.1.length ∧ TBf 128 (D 81) (D 82) σ.2.1) ∧ (D 80 13 = nI σ.2.2.1.1 ∧ D 80 14 = bI σ.2.2.1.2.1 ∧ D 80 15 = bI σ.2.2.1.2.2) ∧ MF D σ.2.2.2.1 ∧ D 80 12 = nI σ.2.2.2.2
def PM (D : mx_Mem) (σ : sg) (x : Int32) : Option Value → mx_Mem → Prop := fun rv D' => rv = some (.int x) ∧ MI D' σ ∧ ∀ q, q < 80 → D' q = D q
/-- the reference's state, by its cells -/
theorem MI_kept {D D' : mx_Mem} {σ : sg} (h : MI D σ) (h0 : ∀ j, j = 0 ∨ j = 7 ∨ j = 11 ∨ j = 12 ∨ j = 13 ∨ j = 14 ∨ j = 15 → D' 80 j = D 80 j) (h1 : D' 81 = D 81) (h2 : D' 82 = D 82) (h5 : D' 85 = D 85) (h6 : D' 86 = D 86) (h7 : D' 87 = D 87) (h8 : D' 88 = D 88) : MI D' σ := by
  obtain ⟨⟨a1, a2⟩, ⟨b1, b2⟩, ⟨c1, c2⟩, ⟨d1, d2, d3⟩, ⟨e1, e2⟩, f1⟩ := h
  unfold MI MF TX
  rw [h0 0 (by simp), h0 7 (by simp), h0 11 (by simp), h0 12 (by simp), h0 13 (by simp), h0 14 (by simp), h0 15 (by simp), h1, h2, h5, h6, h7, h8]
  exact ⟨⟨a1, a2⟩, ⟨b1, b2⟩, ⟨c1, c2⟩, ⟨d1, d2, d3⟩, ⟨e1, e2⟩, f1⟩
theorem TX_kept {D D' : mx_Mem} {t : Nat} {xs : List Nat} (h : TX D t xs) (hl : xs.length ≤ 12) (h7 : D' 87 t = D 87 t) (h6 : ∀ i, i < 12 → D' 86 (12 * t + i) = D 86 (12 * t + i)) : TX D' t xs :=
  ⟨by rw [h7]; exact h.1, fun i c hc => by rw [h6 i (by have := (List.getElem?_eq_some_iff.mp hc).1; omega)]; exact h.2 i c hc⟩
/-- line j has become xs -/
theorem MI_line {D D' : mx_Mem} {σ : sg} {j : Nat} {xs : List Nat} (hI : SI σ) (h : MI D σ) (hj : j < 2) (hF : ∀ q, ¬ q = 86 → ¬ q = 87 → D' q = D q) (h7 : ∀ t, ¬ t = j → D' 87 t = D 87 t) (h6 : ∀ i, (i < 12 * j ∨ 12 * j + 12 ≤ i) → D' 86 i = D 86 i) (hx : TX D' j xs) : MI D' (sg_up σ j xs) := by
  obtain ⟨⟨a1, a2⟩, ⟨b1, b2⟩, ⟨c1, c2⟩, ⟨d1, d2, d3⟩, ⟨e1, e2⟩, f1⟩ := h
  obtain ⟨⟨i1, i2⟩, -, -, -, -, ⟨i3, i4, -⟩⟩ := hI
  refine ⟨?_, ⟨by rw [hF 80 (by omega) (by omega)]; simpa [sg_up, show ¬ 2 = j by omega] using b1, by rw [hF 85 (by omega) (by omega)]; simpa [sg_up, show ¬ 2 = j by omega] using b2⟩, ⟨by rw [hF 80 (by omega) (by omega)]; exact c1, by rw [hF 81 (by omega) (by omega), hF 82 (by omega) (by omega)]; exact c2⟩, ⟨by rw [hF 80 (by omega) (by omega)]; exact d1, by rw [hF 80 (by omega) (by omega)]; exact d2, by rw [hF 80 (by omega) (by omega)]; exact d3⟩, ⟨by rw [hF 80 (by omega) (by omega)]; exact e1, fun i e he => ?_⟩, by rw [hF 80 (by omega) (by omega)]; exact f1⟩
  · rcases (show j = 0 ∨ j = 1 by omega) with rfl | rfl
    · exact ⟨by simpa [sg_up] using hx, by simpa [sg_up] using TX_kept a2 i2.1 (h7 1 (by omega)) (fun i hi => h6 _ (by omega))⟩
    · exact ⟨by simpa [sg_up] using TX_kept a1 i1.1 (h7 0 (by omega)) (fun i hi => h6 _ (by omega)), by simpa [sg_up] using hx⟩
  · obtain ⟨z1, z2⟩ := e2 i e he
    rw [hF 88 (by omega) (by omega)]
    exact ⟨z1, TX_kept z2 (i4 e (List.mem_of_getElem? he)).1.1 (h7 _ (by omega)) (fun k hk => h6 _ (by omega))⟩
theorem MI_rule {D D' : mx_Mem} {σ : sg} {xs : List Nat} (h : MI D σ) (hF : ∀ q, ¬ q = 80 → ¬ q = 85 → D' q = D q) (h0 : ∀ j, ¬ j = 7 → D' 80 j = D 80 j) (h7 : D' 80 7 = nI xs.length) (hx : ar (D' 85) xs) : MI D' (sg_up σ 2 xs) := by
  obtain ⟨⟨a1, a2⟩, ⟨b1, b2⟩, ⟨c1, c2⟩, ⟨d1, d2, d3⟩, ⟨e1, e2⟩, f1⟩ := h
  unfold MI MF TX at *
  rw [h0 0 (by omega), h0 11 (by omega), h0 12 (by omega), h0 13 (by omega), h0 14 (by omega), h0 15 (by omega), hF 81 (by omega) (by omega), hF 82 (by omega) (by omega), hF 86 (by omega) (by omega), hF 87 (by omega) (by omega), hF 88 (by omega) (by omega)]
  exact ⟨⟨by simpa [sg_up] using a1, by simpa [sg_up] using a2⟩, ⟨by simpa [sg_up] using h7, by simpa [sg_up] using hx⟩, ⟨c1, c2⟩, ⟨d1, d2, d3⟩, ⟨e1, e2⟩, f1⟩
set_option maxHeartbeats 4000000 in
set_option maxRecDepth 100000 in
theorem sp_Mo_isLine {G : mx_G} {d : Nat} {S : List mx_Sh} {D : mx_Mem} {x : Int32} : EV G d m_Mo_isLine 0 (mx_lc0 m_Mo_isLine [.ref 80, .int x]) [] S D S (RI (bI (decide (x = nI 0 ∨ x = nI 1))) D) := by
  show EV _ _ _ _ [some (.ref 80), some (.int x)] [] _ _ _ _
  refine EV.iload_n d_Mo_isLine_0 rfl ?_
  refine EV.if_eq (tgt := 9) d_Mo_isLine_1 (by decide) (fun h1 => ?_) (fun h1 => ?_)
  · refine EV.iconst (v := nI 1) d_Mo_isLine_9 (by decide) ?_
    refine EV.goto (tgt := 14) d_Mo_isLine_10 (by decide) ?_
    exact EV.ireturn d_Mo_isLine_14 ⟨_, rfl, rfl⟩ ⟨by first | rw [bI_t (by simp; exact Or.inl h1)] | rw [bI_t (by simp; exact Or.inr h6)] | rw [bI_f (by simp; exact ⟨h1, h6⟩)], rfl⟩
  · refine EV.iload_n d_Mo_isLine_4 rfl ?_
    refine EV.iconst (v := nI 1) d_Mo_isLine_5 (by decide) ?_
    refine EV.icmp_ne (tgt := 13) d_Mo_isLine_6 (by decide) (fun h6 => ?_) (fun h6 => ?_)
    · refine EV.iconst (v := nI 0) d_Mo_isLine_13 (by decide) ?_
      exact EV.ireturn d_Mo_isLine_14 ⟨_, rfl, rfl⟩ ⟨by first | rw [bI_t (by simp; exact Or.inl h1)] | rw [bI_t (by simp; exact Or.inr h6)] | rw [bI_f (by simp; exact ⟨h1, h6⟩)], rfl⟩
    · refine EV.iconst (v := nI 1) d_Mo_isLine_9 (by decide) ?_
      refine EV.goto (tgt := 14) d_Mo_isLine_10 (by decide) ?_
      exact EV.ireturn d_Mo_isLine_14 ⟨_, rfl, rfl⟩ ⟨by first | rw [bI_t (by simp; exact Or.inl h1)] | rw [bI_t (by simp; exact Or.inr h6)] | rw [bI_f (by simp; exact ⟨h1, h6⟩)], rfl⟩
set_option maxHeartbeats 4000000 in
set_option maxRecDepth 100000 in
theorem lp_Mo_type0 {G : mx_G} {d : Nat} {S : List mx_Sh} {D : mx_Mem} {σ : sg} (hS : SM S) (hC : MI D σ) (hI : SI σ) {c : Nat} (hc : c < 65536) {b : Bool} (hb : b = ps_txt c) : EV G (d + 1) m_Mo_type 82 [some (.ref 80), some (.int (nI 0)), some (.int (nI c)), some (.int (bI b))] [] S D S (PM D (op_type σ (nI 0) c).2 (op_type σ (nI 0) c).1) := by
  obtain ⟨hm0, hm1, hm2, hm3, hm4, hm5, hm6, hm7, hm8, hm9, hm10, hm11, hm12⟩ := id hS
  have hle : (σ.1 0).length ≤ 12 := hI.1.1.1
  have hop : op_type σ (nI 0) c = if b = true ∧ (σ.1 0).length < 12 then (nI 1, sg_up σ 0 (σ.1 0 ++ [c])) else (nI 0, σ) := by subst hb; rfl
  have hln : D 87 0 = nI (σ.1 0).length := hC.1.1.1
  rw [hop]
  refine EV.aload_n d_Mo_type_82 rfl ?_
  refine EV.iload_n d_Mo_type_83 rfl ?_
  refine EV.V1 cv_Mo_63 d_Mo_type_84 hm0 (sp_Mo_isLine) ⟨Nat.le_refl _, Nat.le_refl _⟩ rfl rfl (Nat.le_of_ble_eq_true rfl) (fun rv D1 hp => ?_)
  obtain ⟨rfl, hD⟩ := hp
  obtain rfl := hD.symm
  refine EV.if_eqB (tgt := 105) d_Mo_type_87 (by decide) (fun h => absurd h (by decide)) (fun _ => ?_)
  refine EV.iload_n d_Mo_type_90 rfl ?_
  refine EV.if_eqB (tgt := 105) d_Mo_type_91 (by decide) (fun h91 => ?_) (fun h91 => ?_)
  · refine EV.iconst (v := nI 0) d_Mo_type_105 (by decide) ?_
    rw [if_neg (by simp [h91])]
    exact EV.ireturn d_Mo_type_106 ⟨_, rfl, rfl⟩ ⟨rfl, hC, fun _ _ => rfl⟩
  refine EV.aload_n d_Mo_type_94 rfl ?_
  refine EV.getR fl_Mo_28 d_Mo_type_95 (by first | assumption | rfl) rfl ?_
  refine EV.iload_n d_Mo_type_98 rfl ?_
  refine EV.ialdN d_Mo_type_99 (by first | assumption | rfl) rfl rfl (by decide) (by first | decide | omega) ?_
  refine EV.bipush (v := nI 12) d_Mo_type_100 (by decide) ?_
  refine EV.icmp_neN (tgt := 107) d_Mo_type_102 (by decide) hln rfl (by omega) (by omega) (fun h102 => ?_) (fun h102 => ?_)
  · rw [if_pos ⟨h91, by omega⟩]
    refine EV.aload_n d_Mo_type_107 rfl ?_
    refine EV.getR fl_Mo_25 d_Mo_type_108 (by first | assumption | rfl) rfl ?_
    refine EV.bipush (v := nI 12) d_Mo_type_111 (by decide) ?_
    refine EV.iload_n d_Mo_type_113 rfl ?_
    refine EV.imul d_Mo_type_114 ?_
    refine EV.aload_n d_Mo_type_115 rfl ?_
    refine EV.getR fl_Mo_28 d_Mo_type_116 (by first | assumption | rfl) rfl ?_
    refine EV.iload_n d_Mo_type_119 rfl ?_
    refine EV.ialdN d_Mo_type_120 (by first | assumption | rfl) rfl rfl (by decide) (by first | decide | omega) ?_
    refine EV.top hln ?_
    refine EV.iadd d_Mo_type_121 ?_
    refine EV.iload_n d_Mo_type_122 rfl ?_
    refine EV.iastN d_Mo_type_123 (by first | assumption | rfl) rfl (show _ = nI (12 * 0 + (σ.1 0).length) from by rw [pk_mul, nI_add]) (by omega) (by first | decide | omega) ?_
    refine EV.aload_n d_Mo_type_124 rfl ?_
    refine EV.getR fl_Mo_28 d_Mo_type_125 (by first | assumption | rfl) rfl ?_
    refine EV.iload_n d_Mo_type_128 rfl ?_
    refine EV.dup2 d_Mo_type_129 rfl rfl ?_
    refine EV.ialdN d_Mo_type_130 (by first | assumption | rfl) rfl rfl (by decide) (by first | decide | omega) ?_
    refine EV.iconst (v := nI 1) d_Mo_type_131 (by decide) ?_
    refine EV.iadd d_Mo_type_132 ?_
    refine EV.top (y := nI ((σ.1 0).length + 1)) (by rw [mx_w_ne _ _ _ (by omega), hln]; exact nI_1 _) ?_
    refine EV.iastN d_Mo_type_133 (by first | assumption | rfl) rfl rfl (by decide) (by first | decide | omega) ?_
    refine EV.iconst (v := nI 1) d_Mo_type_134 (by decide) ?_
    refine EV.ireturn d_Mo_type_135 ⟨_, rfl, rfl⟩ ⟨rfl, MI_line (j := 0) hI hC (by decide) (fun q q1 q2 => by rw [mx_w_ne _ _ _ q2, mx_w_ne _ _ _ q1]) (fun t ht => by rw [mx_w_eq, mx_w_ne _ _ _ (by omega)]; simp [upd, ht]) (fun i hi => by rw [mx_w_ne _ _ _ (by omega), mx_w_eq]; unfold upd; rw [if_neg (by omega)]) ⟨by rw [mx_w_eq]; simp [upd], fun i x hx => ?_⟩, fun q hq => by rw [mx_w_ne _ _ _ (by omega), mx_w_ne _ _ _ (by omega)]⟩
    rw [mx_w_ne _ _ _ (by omega), mx_w_eq]
    unfold upd
    by_cases hq : i = (σ.1 0).length
    · subst hq
      simp at hx
      subst hx
      rw [if_pos rfl]
    · have hil : i < (σ.1 0).length := by
        have := (List.getElem?_eq_some_iff.mp hx).1
        rw [List.length_append, List.length_singleton] at this
        omega
      rw [List.getElem?_append_left hil] at hx
      rw [if_neg (by omega)]
      exact hC.1.1.2 i x hx
  · refine EV.iconst (v := nI 0) d_Mo_type_105 (by decide) ?_
    rw [if_neg (by omega)]
    exact EV.ireturn d_Mo_type_106 ⟨_, rfl, rfl⟩ ⟨rfl, hC, fun _ _ => rfl⟩
set_option maxHeartbeats 4000000 in
set_option maxRecDepth 100000 in
theorem sp_Mo_type0 {G : mx_G} {d : Nat} {S : List mx_Sh} {D : mx_Mem} {σ : sg} (hS : SM S) (hC : MI D σ) (hI : SI σ) {c : Nat} (hc : c < 65536) : EV G (d + 1) m_Mo_type 0 (mx_lc0 m_Mo_type [.ref 80, .int (nI 0), .int (nI c)]) [] S D S (PM D (op_type σ (nI 0) c).2 (op_type σ (nI 0) c).1) := by
  show EV _ _ _ _ [some (.ref 80), some (.int (nI 0)), some (.int (nI c)), none] [] _ _ _ _
  refine EV.iload_n d_Mo_type_0 rfl ?_
  refine EV.iconst (v := nI 2) d_Mo_type_1 (by decide) ?_
  refine EV.icmp_neN (tgt := 50) d_Mo_type_2 (by decide) rfl rfl (by omega) (by omega) (fun h2 => ?_) (fun h2 => ?_)
  · refine EV.iload_n d_Mo_type_50 rfl ?_
    refine EV.T1 cs_Mo_56 d_Mo_type_51 (sp_Mo_isLetter (by omega)) ⟨Nat.le_refl _, Nat.le_refl _⟩ rfl rfl (Nat.le_of_ble_eq_true rfl) (fun rv D1 hp => ?_)
    obtain ⟨rfl, hD⟩ := hp
    obtain rfl := hD.symm
    refine EV.if_neB (tgt := 76) d_Mo_type_54 (by decide) (fun h54 => ?_) (fun h54 => ?_)
    · refine EV.iconst (v := nI 1) d_Mo_type_76 (by decide) ?_
      refine EV.goto (tgt := 81) d_Mo_type_77 (by decide) ?_
      refine EV.istore_n d_Mo_type_81 (by decide) ?_
      exact lp_Mo_type0 (b := true) hS hC hI hc (by simp [ps_txt, ps_var, h54])
    refine EV.iload_n d_Mo_type_57 rfl ?_
    refine EV.T1 cs_Mo_60 d_Mo_type_58 (sp_Mo_isMark (by omega)) ⟨Nat.le_refl _, Nat.le_refl _⟩ rfl rfl (Nat.le_of_ble_eq_true rfl) (fun rv D1 hp => ?_)
    obtain ⟨rfl, hD⟩ := hp
    obtain rfl := hD.symm
    refine EV.if_neB (tgt := 76) d_Mo_type_61 (by decide) (fun h61 => ?_) (fun h61 => ?_)
    · refine EV.iconst (v := nI 1) d_Mo_type_76 (by decide) ?_
      refine EV.goto (tgt := 81) d_Mo_type_77 (by decide) ?_
      refine EV.istore_n d_Mo_type_81 (by decide) ?_
      exact lp_Mo_type0 (b := true) hS hC hI hc (by simp [ps_txt, ps_var, h61])
    refine EV.iload_n d_Mo_type_64 rfl ?_
    refine EV.bipush (v := nI 32) d_Mo_type_65 (by decide) ?_
    refine EV.icmp_eqN (tgt := 76) d_Mo_type_67 (by decide) rfl rfl (by omega) (by omega) (fun h67 => ?_) (fun h67 => ?_)
    · refine EV.iconst (v := nI 1) d_Mo_type_76 (by decide) ?_
      refine EV.goto (tgt := 81) d_Mo_type_77 (by decide) ?_
      refine EV.istore_n d_Mo_type_81 (by decide) ?_
      exact lp_Mo_type0 (b := true) hS hC hI hc (by simp [ps_txt, ps_var, h67])
    · refine EV.iload_n d_Mo_type_70 rfl ?_
      refine EV.bipush (v := nI 45) d_Mo_type_71 (by decide) ?_
      refine EV.icmp_neN (tgt := 80) d_Mo_type_73 (by decide) rfl rfl (by omega) (by omega) (fun h73 => ?_) (fun h73 => ?_)
      · refine EV.iconst (v := nI 0) d_Mo_type_80 (by decide) ?_
        refine EV.istore_n d_Mo_type_81 (by decide) ?_
        exact lp_Mo_type0 (b := false) hS hC hI hc (by simp [ps_txt, ps_var, h54, h61, h67, h73])
      · refine EV.iconst (v := nI 1) d_Mo_type_76 (by decide) ?_
        refine EV.goto (tgt := 81) d_Mo_type_77 (by decide) ?_
        refine EV.istore_n d_Mo_type_81 (by decide) ?_
        exact lp_Mo_type0 (b := true) hS hC hI hc (by simp [ps_txt, ps_var, h73])
  · exfalso
    omega
set_option maxHeartbeats 4000000 in
set_option maxRecDepth 100000 in
theorem lp_Mo_type1 {G : mx_G} {d : Nat} {S : List mx_Sh} {D : mx_Mem} {σ : sg} (hS : SM S) (hC : MI D σ) (hI : SI σ) {c : Nat} (hc : c < 65536) {b : Bool} (hb : b = ps_txt c) : EV G (d + 1) m_Mo_type 82 [some (.ref 80), some (.int (nI 1)), some (.int (nI c)), some (.int (bI b))] [] S D S (PM D (op_type σ (nI 1) c).2 (op_type σ (nI 1) c).1) := by
  obtain ⟨hm0, hm1, hm2, hm3, hm4, hm5, hm6, hm7, hm8, hm9, hm10, hm11, hm12⟩ := id hS
  have hle : (σ.1 1).length ≤ 12 := hI.1.2.1
  have hop : op_type σ (nI 1) c = if b = true ∧ (σ.1 1).length < 12 then (nI 1, sg_up σ 1 (σ.1 1 ++ [c])) else (nI 0, σ) := by subst hb; rfl
  have hln : D 87 1 = nI (σ.1 1).length := hC.1.2.1
  rw [hop]
  refine EV.aload_n d_Mo_type_82 rfl ?_
  refine EV.iload_n d_Mo_type_83 rfl ?_
  refine EV.V1 cv_Mo_63 d_Mo_type_84 hm0 (sp_Mo_isLine) ⟨Nat.le_refl _, Nat.le_refl _⟩ rfl rfl (Nat.le_of_ble_eq_true rfl) (fun rv D1 hp => ?_)
  obtain ⟨rfl, hD⟩ := hp
  obtain rfl := hD.symm
  refine EV.if_eqB (tgt := 105) d_Mo_type_87 (by decide) (fun h => absurd h (by decide)) (fun _ => ?_)
  refine EV.iload_n d_Mo_type_90 rfl ?_
  refine EV.if_eqB (tgt := 105) d_Mo_type_91 (by decide) (fun h91 => ?_) (fun h91 => ?_)
  · refine EV.iconst (v := nI 0) d_Mo_type_105 (by decide) ?_
    rw [if_neg (by simp [h91])]
    exact EV.ireturn d_Mo_type_106 ⟨_, rfl, rfl⟩ ⟨rfl, hC, fun _ _ => rfl⟩
  refine EV.aload_n d_Mo_type_94 rfl ?_
  refine EV.getR fl_Mo_28 d_Mo_type_95 (by first | assumption | rfl) rfl ?_
  refine EV.iload_n d_Mo_type_98 rfl ?_
  refine EV.ialdN d_Mo_type_99 (by first | assumption | rfl) rfl rfl (by decide) (by first | decide | omega) ?_
  refine EV.bipush (v := nI 12) d_Mo_type_100 (by decide) ?_
  refine EV.icmp_neN (tgt := 107) d_Mo_type_102 (by decide) hln rfl (by omega) (by omega) (fun h102 => ?_) (fun h102 => ?_)
  · rw [if_pos ⟨h91, by omega⟩]
    refine EV.aload_n d_Mo_type_107 rfl ?_
    refine EV.getR fl_Mo_25 d_Mo_type_108 (by first | assumption | rfl) rfl ?_
    refine EV.bipush (v := nI 12) d_Mo_type_111 (by decide) ?_
    refine EV.iload_n d_Mo_type_113 rfl ?_
    refine EV.imul d_Mo_type_114 ?_
    refine EV.aload_n d_Mo_type_115 rfl ?_
    refine EV.getR fl_Mo_28 d_Mo_type_116 (by first | assumption | rfl) rfl ?_
    refine EV.iload_n d_Mo_type_119 rfl ?_
    refine EV.ialdN d_Mo_type_120 (by first | assumption | rfl) rfl rfl (by decide) (by first | decide | omega) ?_
    refine EV.top hln ?_
    refine EV.iadd d_Mo_type_121 ?_
    refine EV.iload_n d_Mo_type_122 rfl ?_
    refine EV.iastN d_Mo_type_123 (by first | assumption | rfl) rfl (show _ = nI (12 * 1 + (σ.1 1).length) from by rw [pk_mul, nI_add]) (by omega) (by first | decide | omega) ?_
    refine EV.aload_n d_Mo_type_124 rfl ?_
    refine EV.getR fl_Mo_28 d_Mo_type_125 (by first | assumption | rfl) rfl ?_
    refine EV.iload_n d_Mo_type_128 rfl ?_
    refine EV.dup2 d_Mo_type_129 rfl rfl ?_
    refine EV.ialdN d_Mo_type_130 (by first | assumption | rfl) rfl rfl (by decide) (by first | decide | omega) ?_
    refine EV.iconst (v := nI 1) d_Mo_type_131 (by decide) ?_
    refine EV.iadd d_Mo_type_132 ?_
    refine EV.top (y := nI ((σ.1 1).length + 1)) (by rw [mx_w_ne _ _ _ (by omega), hln]; exact nI_1 _) ?_
    refine EV.iastN d_Mo_type_133 (by first | assumption | rfl) rfl rfl (by decide) (by first | decide | omega) ?_
    refine EV.iconst (v := nI 1) d_Mo_type_134 (by decide) ?_
    refine EV.ireturn d_Mo_type_135 ⟨_, rfl, rfl⟩ ⟨rfl, MI_line (j := 1) hI hC (by decide) (fun q q1 q2 => by rw [mx_w_ne _ _ _ q2, mx_w_ne _ _ _ q1]) (fun t ht => by rw [mx_w_eq, mx_w_ne _ _ _ (by omega)]; simp [upd, ht]) (fun i hi => by rw [mx_w_ne _ _ _ (by omega), mx_w_eq]; unfold upd; rw [if_neg (by omega)]) ⟨by rw [mx_w_eq]; simp [upd], fun i x hx => ?_⟩, fun q hq => by rw [mx_w_ne _ _ _ (by omega), mx_w_ne _ _ _ (by omega)]⟩
    rw [mx_w_ne _ _ _ (by omega), mx_w_eq]
    unfold upd
    by_cases hq : i = (σ.1 1).length
    · subst hq
      simp at hx
      subst hx
      rw [if_pos rfl]
    · have hil : i < (σ.1 1).length := by
        have := (List.getElem?_eq_some_iff.mp hx).1
        rw [List.length_append, List.length_singleton] at this
        omega
      rw [List.getElem?_append_left hil] at hx
      rw [if_neg (by omega)]
      exact hC.1.2.2 i x hx
  · refine EV.iconst (v := nI 0) d_Mo_type_105 (by decide) ?_
    rw [if_neg (by omega)]
    exact EV.ireturn d_Mo_type_106 ⟨_, rfl, rfl⟩ ⟨rfl, hC, fun _ _ => rfl⟩
set_option maxHeartbeats 4000000 in
set_option maxRecDepth 100000 in
theorem sp_Mo_type1 {G : mx_G} {d : Nat} {S : List mx_Sh} {D : mx_Mem} {σ : sg} (hS : SM S) (hC : MI D σ) (hI : SI σ) {c : Nat} (hc : c < 65536) : EV G (d + 1) m_Mo_type 0 (mx_lc0 m_Mo_type [.ref 80, .int (nI 1), .int (nI c)]) [] S D S (PM D (op_type σ (nI 1) c).2 (op_type σ (nI 1) c).1) := by
  show EV _ _ _ _ [some (.ref 80), some (.int (nI 1)), some (.int (nI c)), none] [] _ _ _ _
  refine EV.iload_n d_Mo_type_0 rfl ?_
  refine EV.iconst (v := nI 2) d_Mo_type_1 (by decide) ?_
  refine EV.icmp_neN (tgt := 50) d_Mo_type_2 (by decide) rfl rfl (by omega) (by omega) (fun h2 => ?_) (fun h2 => ?_)
  · refine EV.iload_n d_Mo_type_50 rfl ?_
    refine EV.T1 cs_Mo_56 d_Mo_type_51 (sp_Mo_isLetter (by omega)) ⟨Nat.le_refl _, Nat.le_refl _⟩ rfl rfl (Nat.le_of_ble_eq_true rfl) (fun rv D1 hp => ?_)
    obtain ⟨rfl, hD⟩ := hp
    obtain rfl := hD.symm
    refine EV.if_neB (tgt := 76) d_Mo_type_54 (by decide) (fun h54 => ?_) (fun h54 => ?_)
    · refine EV.iconst (v := nI 1) d_Mo_type_76 (by decide) ?_
      refine EV.goto (tgt := 81) d_Mo_type_77 (by decide) ?_
      refine EV.istore_n d_Mo_type_81 (by decide) ?_
      exact lp_Mo_type1 (b := true) hS hC hI hc (by simp [ps_txt, ps_var, h54])
    refine EV.iload_n d_Mo_type_57 rfl ?_
    refine EV.T1 cs_Mo_60 d_Mo_type_58 (sp_Mo_isMark (by omega)) ⟨Nat.le_refl _, Nat.le_refl _⟩ rfl rfl (Nat.le_of_ble_eq_true rfl) (fun rv D1 hp => ?_)
    obtain ⟨rfl, hD⟩ := hp
    obtain rfl := hD.symm
    refine EV.if_neB (tgt := 76) d_Mo_type_61 (by decide) (fun h61 => ?_) (fun h61 => ?_)
    · refine EV.iconst (v := nI 1) d_Mo_type_76 (by decide) ?_
      refine EV.goto (tgt := 81) d_Mo_type_77 (by decide) ?_
      refine EV.istore_n d_Mo_type_81 (by decide) ?_
      exact lp_Mo_type1 (b := true) hS hC hI hc (by simp [ps_txt, ps_var, h61])
    refine EV.iload_n d_Mo_type_64 rfl ?_
    refine EV.bipush (v := nI 32) d_Mo_type_65 (by decide) ?_
    refine EV.icmp_eqN (tgt := 76) d_Mo_type_67 (by decide) rfl rfl (by omega) (by omega) (fun h67 => ?_) (fun h67 => ?_)
    · refine EV.iconst (v := nI 1) d_Mo_type_76 (by decide) ?_
      refine EV.goto (tgt := 81) d_Mo_type_77 (by decide) ?_
      refine EV.istore_n d_Mo_type_81 (by decide) ?_
      exact lp_Mo_type1 (b := true) hS hC hI hc (by simp [ps_txt, ps_var, h67])
    · refine EV.iload_n d_Mo_type_70 rfl ?_
      refine EV.bipush (v := nI 45) d_Mo_type_71 (by decide) ?_
      refine EV.icmp_neN (tgt := 80) d_Mo_type_73 (by decide) rfl rfl (by omega) (by omega) (fun h73 => ?_) (fun h73 => ?_)
      · refine EV.iconst (v := nI 0) d_Mo_type_80 (by decide) ?_
        refine EV.istore_n d_Mo_type_81 (by decide) ?_
        exact lp_Mo_type1 (b := false) hS hC hI hc (by simp [ps_txt, ps_var, h54, h61, h67, h73])
      · refine EV.iconst (v := nI 1) d_Mo_type_76 (by decide) ?_
        refine EV.goto (tgt := 81) d_Mo_type_77 (by decide) ?_
        refine EV.istore_n d_Mo_type_81 (by decide) ?_
        exact lp_Mo_type1 (b := true) hS hC hI hc (by simp [ps_txt, ps_var, h73])
  · exfalso
    omega
set_option maxHeartbeats 4000000 in
set_option maxRecDepth 100000 in
theorem sp_Mo_type2 {G : mx_G} {d : Nat} {S : List mx_Sh} {D : mx_Mem} {σ : sg} (hS : SM S) (hC : MI D σ) (hI : SI σ) {c : Nat} (hc : c < 65536) : EV G (d + 1) m_Mo_type 0 (mx_lc0 m_Mo_type [.ref 80, .int (nI 2), .int (nI c)]) [] S D S (PM D (op_type σ (nI 2) c).2 (op_type σ (nI 2) c).1) := by
  obtain ⟨hm0, hm1, hm2, hm3, hm4, hm5, hm6, hm7, hm8, hm9, hm10, hm11, hm12⟩ := id hS
  have hle := hI.2.1.1
  have hop : op_type σ (nI 2) c = if (32 ≤ c ∧ c ≤ 126) ∧ (σ.1 2).length < 24 then (nI 1, sg_up σ 2 (σ.1 2 ++ [c])) else (nI 0, σ) := by
    show (if (if 2 = 2 then decide (32 ≤ c ∧ c ≤ 126) else ps_txt c) = true ∧ _ then _ else _) = _
    simp only [if_true, decide_eq_true_eq]
  show EV _ _ _ _ [some (.ref 80), some (.int (nI 2)), some (.int (nI c)), none] [] _ _ _ _
  refine EV.iload_n d_Mo_type_0 rfl ?_
  refine EV.iconst (v := nI 2) d_Mo_type_1 (by decide) ?_
  refine EV.icmp_neN (tgt := 50) d_Mo_type_2 (by decide) rfl rfl (by omega) (by omega) (fun h2 => ?_) (fun h2 => ?_)
  · exfalso
    omega
  · refine EV.aload_n d_Mo_type_5 rfl ?_
    refine EV.getI fl_Mo_53 d_Mo_type_6 (by first | assumption | rfl) rfl ?_
    refine EV.bipush (v := nI 24) d_Mo_type_9 (by decide) ?_
    refine EV.icmp_eqN (tgt := 26) d_Mo_type_11 (by decide) hC.2.1.1 rfl (by omega) (by omega) (fun h11 => ?_) (fun h11 => ?_)
    · refine EV.iconst (v := nI 0) d_Mo_type_26 (by decide) ?_
      exact EV.ireturn d_Mo_type_27 ⟨_, rfl, rfl⟩ ⟨by rw [hop, if_neg (by omega)], by rw [hop, if_neg (by omega)]; exact hC, fun _ _ => rfl⟩
    · refine EV.iload_n d_Mo_type_14 rfl ?_
      refine EV.bipush (v := nI 32) d_Mo_type_15 (by decide) ?_
      refine EV.icmp_ltN (tgt := 26) d_Mo_type_17 (by decide) rfl rfl (by omega) (by omega) (fun h17 => ?_) (fun h17 => ?_)
      · refine EV.iconst (v := nI 0) d_Mo_type_26 (by decide) ?_
        exact EV.ireturn d_Mo_type_27 ⟨_, rfl, rfl⟩ ⟨by rw [hop, if_neg (by omega)], by rw [hop, if_neg (by omega)]; exact hC, fun _ _ => rfl⟩
      · refine EV.iload_n d_Mo_type_20 rfl ?_
        refine EV.bipush (v := nI 126) d_Mo_type_21 (by decide) ?_
        refine EV.icmp_leN (tgt := 28) d_Mo_type_23 (by decide) rfl rfl (by omega) (by omega) (fun h23 => ?_) (fun h23 => ?_)
        · refine EV.aload_n d_Mo_type_28 rfl ?_
          refine EV.getR fl_Mo_22 d_Mo_type_29 (by first | assumption | rfl) rfl ?_
          refine EV.aload_n d_Mo_type_32 rfl ?_
          refine EV.getI fl_Mo_53 d_Mo_type_33 (by first | assumption | rfl) rfl ?_
          refine EV.iload_n d_Mo_type_36 rfl ?_
          refine EV.iastN d_Mo_type_37 (by first | assumption | rfl) rfl hC.2.1.1 (by omega) (by first | decide | omega) ?_
          refine EV.aload_n d_Mo_type_38 rfl ?_
          refine EV.dup d_Mo_type_39 rfl ?_
          refine EV.getI fl_Mo_53 d_Mo_type_40 (by first | assumption | rfl) rfl ?_
          refine EV.iconst (v := nI 1) d_Mo_type_43 (by decide) ?_
          refine EV.iadd d_Mo_type_44 ?_
          refine EV.top (y := nI ((σ.1 2).length + 1)) (by rw [mx_w_ne _ _ _ (by omega), hC.2.1.1]; exact nI_1 _) ?_
          refine EV.putI fl_Mo_53 d_Mo_type_45 (by first | assumption | rfl) rfl rfl rfl ?_
          refine EV.iconst (v := nI 1) d_Mo_type_48 (by decide) ?_
          exact EV.ireturn d_Mo_type_49 ⟨_, rfl, rfl⟩ ⟨by rw [hop, if_pos (by omega)], by rw [hop, if_pos (by omega)]; exact MI_rule hC (fun q q1 q2 => by rw [mx_w_ne _ _ _ q1, mx_w_ne _ _ _ q2]) (fun j hj => by rw [mx_w_eq, mx_w_ne _ _ _ (by omega)]; simp [upd, hj]) (by rw [mx_w_eq]; simp [upd]) (by rw [mx_w_ne _ _ _ (by omega), mx_w_eq]; exact ar_snoc hC.2.1.2), fun q hq => by rw [mx_w_ne _ _ _ (by omega), mx_w_ne _ _ _ (by omega)]⟩
        · refine EV.iconst (v := nI 0) d_Mo_type_26 (by decide) ?_
          exact EV.ireturn d_Mo_type_27 ⟨_, rfl, rfl⟩ ⟨by rw [hop, if_neg (by omega)], by rw [hop, if_neg (by omega)]; exact hC, fun _ _ => rfl⟩
set_option maxHeartbeats 4000000 in
set_option maxRecDepth 100000 in
theorem sp_Mo_typeN {G : mx_G} {d : Nat} {S : List mx_Sh} {D : mx_Mem} {σ : sg} (hS : SM S) (hC : MI D σ) (hI : SI σ) {x : Int32} {c : Nat} (hc : c < 65536) (hx : x < 0 ∨ nI 3 ≤ x) : EV G (d + 1) m_Mo_type 0 (mx_lc0 m_Mo_type [.ref 80, .int x, .int (nI c)]) [] S D S (PM D (op_type σ x c).2 (op_type σ x c).1) := by
  obtain ⟨hm0, hm1, hm2, hm3, hm4, hm5, hm6, hm7, hm8, hm9, hm10, hm11, hm12⟩ := id hS
  have hop : op_type σ x c = (nI 0, σ) := by unfold op_type; rw [ln3_n hx]
  have hne : ∀ k : Nat, k < 3 → ¬ x = nI k := fun k hk q => by
    subst q
    rcases hx with h | h
    · exact nI_pos (by omega) h
    · exact nI_ge hk (by decide) h
  rw [hop]
  have K : ∀ v : Int32, EV G (d + 1) m_Mo_type 82 [some (.ref 80), some (.int x), some (.int (nI c)), some (.int v)] [] S D S (PM D σ (nI 0)) := by
    intro v
    refine EV.aload_n d_Mo_type_82 rfl ?_
    refine EV.iload_n d_Mo_type_83 rfl ?_
    refine EV.V1 cv_Mo_63 d_Mo_type_84 hm0 (sp_Mo_isLine) ⟨Nat.le_refl _, Nat.le_refl _⟩ rfl rfl (Nat.le_of_ble_eq_true rfl) (fun rv D1 hp => ?_)
    obtain ⟨rfl, hD⟩ := hp
    obtain rfl := hD.symm
    refine EV.if_eqB (tgt := 105) d_Mo_type_87 (by decide) (fun _ => ?_) (fun h => by have := of_decide_eq_true h; exact (this.elim (hne 0 (by decide)) (hne 1 (by decide))).elim)
    refine EV.iconst (v := nI 0) d_Mo_type_105 (by decide) ?_
    exact EV.ireturn d_Mo_type_106 ⟨_, rfl, rfl⟩ ⟨rfl, hC, fun _ _ => rfl⟩
  show EV _ _ _ _ [some (.ref 80), some (.int x), some (.int (nI c)), none] [] _ _ _ _
  refine EV.iload_n d_Mo_type_0 rfl ?_
  refine EV.iconst (v := nI 2) d_Mo_type_1 (by decide) ?_
  refine EV.icmp_ne (tgt := 50) d_Mo_type_2 (by decide) (fun h2 => ?_) (fun h2 => ?_)
  · refine EV.iload_n d_Mo_type_50 rfl ?_
    refine EV.T1 cs_Mo_56 d_Mo_type_51 (sp_Mo_isLetter (by omega)) ⟨Nat.le_refl _, Nat.le_refl _⟩ rfl rfl (Nat.le_of_ble_eq_true rfl) (fun rv D1 hp => ?_)
    obtain ⟨rfl, hD⟩ := hp
    obtain rfl := hD.symm
    refine EV.if_neB (tgt := 76) d_Mo_type_54 (by decide) (fun h54 => ?_) (fun h54 => ?_)
    · refine EV.iconst (v := nI 1) d_Mo_type_76 (by decide) ?_
      refine EV.goto (tgt := 81) d_Mo_type_77 (by decide) ?_
      refine EV.istore_n d_Mo_type_81 (by decide) ?_
      exact K _
    refine EV.iload_n d_Mo_type_57 rfl ?_
    refine EV.T1 cs_Mo_60 d_Mo_type_58 (sp_Mo_isMark (by omega)) ⟨Nat.le_refl _, Nat.le_refl _⟩ rfl rfl (Nat.le_of_ble_eq_true rfl) (fun rv D1 hp => ?_)
    obtain ⟨rfl, hD⟩ := hp
    obtain rfl := hD.symm
    refine EV.if_neB (tgt := 76) d_Mo_type_61 (by decide) (fun h61 => ?_) (fun h61 => ?_)
    · refine EV.iconst (v := nI 1) d_Mo_type_76 (by decide) ?_
      refine EV.goto (tgt := 81) d_Mo_type_77 (by decide) ?_
      refine EV.istore_n d_Mo_type_81 (by decide) ?_
      exact K _
    refine EV.iload_n d_Mo_type_64 rfl ?_
    refine EV.bipush (v := nI 32) d_Mo_type_65 (by decide) ?_
    refine EV.icmp_eqN (tgt := 76) d_Mo_type_67 (by decide) rfl rfl (by omega) (by omega) (fun h67 => ?_) (fun h67 => ?_)
    · refine EV.iconst (v := nI 1) d_Mo_type_76 (by decide) ?_
      refine EV.goto (tgt := 81) d_Mo_type_77 (by decide) ?_
      refine EV.istore_n d_Mo_type_81 (by decide) ?_
      exact K _
    · refine EV.iload_n d_Mo_type_70 rfl ?_
      refine EV.bipush (v := nI 45) d_Mo_type_71 (by decide) ?_
      refine EV.icmp_neN (tgt := 80) d_Mo_type_73 (by decide) rfl rfl (by omega) (by omega) (fun h73 => ?_) (fun h73 => ?_)
      · refine EV.iconst (v := nI 0) d_Mo_type_80 (by decide) ?_
        refine EV.istore_n d_Mo_type_81 (by decide) ?_
        exact K _
      · refine EV.iconst (v := nI 1) d_Mo_type_76 (by decide) ?_
        refine EV.goto (tgt := 81) d_Mo_type_77 (by decide) ?_
        refine EV.istore_n d_Mo_type_81 (by decide) ?_
        exact K _
  · exact absurd h2 (hne 2 (by decide))
set_option maxHeartbeats 4000000 in
set_option maxRecDepth 100000 in
theorem rf_type {G : mx_G} {d : Nat} {S : List mx_Sh} {D : mx_Mem} {σ : sg} (hS : SM S) (hC : MI D σ) (hI : SI σ) {x : Int32} {c : Nat} (hc : c < 65536) : EV G (d + 1) m_Mo_type 0 (mx_lc0 m_Mo_type [.ref 80, .int x, .int (nI c)]) [] S D S (PM D (op_type σ x c).2 (op_type σ x c).1) := by
  rcases pk_ix x (n := 3) (by decide) with h | h | ⟨j, hj, rfl⟩
  · exact sp_Mo_typeN hS hC hI hc (Or.inl h)
  · exact sp_Mo_typeN hS hC hI hc (Or.inr h)
  · rcases (show j = 0 ∨ j = 1 ∨ j = 2 by omega) with rfl | rfl | rfl
    · exact sp_Mo_type0 hS hC hI hc
    · exact sp_Mo_type1 hS hC hI hc
    · exact sp_Mo_type2 hS hC hI hc
set_option maxHeartbeats 4000000 in
set_option maxRecDepth 100000 in
theorem sp_Mo_wipe0 {G : mx_G} {d : Nat} {S : List mx_Sh} {D : mx_Mem} {σ : sg} (hS : SM S) (hC : MI D σ) (hI : SI σ) : EV G d m_Mo_wipe 0 (mx_lc0 m_Mo_wipe [.ref 80, .int (nI 0)]) [] S D S (PM D (sg_up σ 0 []) (nI (σ.1 0).length)) := by
  obtain ⟨hm0, hm1, hm2, hm3, hm4, hm5, hm6, hm7, hm8, hm9, hm10, hm11, hm12⟩ := id hS
  show EV _ _ _ _ [some (.ref 80), some (.int (nI 0)), none] [] _ _ _ _
  refine EV.iload_n d_Mo_wipe_0 rfl ?_
  refine EV.if_ltN (tgt := 9) d_Mo_wipe_1 rfl (by decide) (by decide) ?_
  refine EV.iload_n d_Mo_wipe_4 rfl ?_
  refine EV.iconst (v := nI 2) d_Mo_wipe_5 (by decide) ?_
  refine EV.icmp_leN (tgt := 11) d_Mo_wipe_6 (by decide) rfl rfl (by omega) (by omega) (fun h6 => ?_) (fun h6 => ?_)
  · refine EV.iload_n d_Mo_wipe_11 rfl ?_
    refine EV.iconst (v := nI 2) d_Mo_wipe_12 (by decide) ?_
    refine EV.icmp_neN (tgt := 23) d_Mo_wipe_13 (by decide) rfl rfl (by omega) (by omega) (fun h13 => ?_) (fun h13 => ?_)
    · refine EV.aload_n d_Mo_wipe_23 rfl ?_
      refine EV.getR fl_Mo_28 d_Mo_wipe_24 (by first | assumption | rfl) rfl ?_
      refine EV.iload_n d_Mo_wipe_27 rfl ?_
      refine EV.ialdN d_Mo_wipe_28 (by first | assumption | rfl) rfl rfl (by decide) (by first | decide | omega) ?_
      refine EV.top hC.1.1.1 ?_
      refine EV.istore_n d_Mo_wipe_29 (by decide) ?_
      refine EV.iload_n d_Mo_wipe_30 rfl ?_
      refine EV.iconst (v := nI 2) d_Mo_wipe_31 (by decide) ?_
      refine EV.icmp_neN (tgt := 43) d_Mo_wipe_32 (by decide) rfl rfl (by omega) (by omega) (fun h32 => ?_) (fun h32 => ?_)
      · refine EV.aload_n d_Mo_wipe_43 rfl ?_
        refine EV.getR fl_Mo_28 d_Mo_wipe_44 (by first | assumption | rfl) rfl ?_
        refine EV.iload_n d_Mo_wipe_47 rfl ?_
        refine EV.iconst (v := nI 0) d_Mo_wipe_48 (by decide) ?_
        refine EV.iastN d_Mo_wipe_49 (by first | assumption | rfl) rfl rfl (by decide) (by first | decide | omega) ?_
        refine EV.iload_n d_Mo_wipe_50 rfl ?_
        exact EV.ireturn d_Mo_wipe_51 ⟨_, rfl, rfl⟩ ⟨rfl, MI_line (j := 0) hI hC (by decide) (fun q _ q2 => mx_w_ne _ _ _ q2) (fun t ht => by rw [mx_w_eq]; simp [upd, ht]) (fun i hi => by rw [mx_w_ne _ _ _ (by omega)]) ⟨by rw [mx_w_eq]; simp [upd], fun i x hx => by simp at hx⟩, fun q hq => mx_w_ne _ _ _ (by omega)⟩
      · exfalso
        omega
    · exfalso
      omega
  · exfalso
    omega
set_option maxHeartbeats 4000000 in
set_option maxRecDepth 100000 in
theorem sp_Mo_wipe1 {G : mx_G} {d : Nat} {S : List mx_Sh} {D : mx_Mem} {σ : sg} (hS : SM S) (hC : MI D σ) (hI : SI σ) : EV G d m_Mo_wipe 0 (mx_lc0 m_Mo_wipe [.ref 80, .int (nI 1)]) [] S D S (PM D (sg_up σ 1 []) (nI (σ.1 1).length)) := by
  obtain ⟨hm0, hm1, hm2, hm3, hm4, hm5, hm6, hm7, hm8, hm9, hm10, hm11, hm12⟩ := id hS
  show EV _ _ _ _ [some (.ref 80), some (.int (nI 1)), none] [] _ _ _ _
  refine EV.iload_n d_Mo_wipe_0 rfl ?_
  refine EV.if_ltN (tgt := 9) d_Mo_wipe_1 rfl (by decide) (by decide) ?_
  refine EV.iload_n d_Mo_wipe_4 rfl ?_
  refine EV.iconst (v := nI 2) d_Mo_wipe_5 (by decide) ?_
  refine EV.icmp_leN (tgt := 11) d_Mo_wipe_6 (by decide) rfl rfl (by omega) (by omega) (fun h6 => ?_) (fun h6 => ?_)
  · refine EV.iload_n d_Mo_wipe_11 rfl ?_
    refine EV.iconst (v := nI 2) d_Mo_wipe_12 (by decide) ?_
    refine EV.icmp_neN (tgt := 23) d_Mo_wipe_13 (by decide) rfl rfl (by omega) (by omega) (fun h13 => ?_) (fun h13 => ?_)
    · refine EV.aload_n d_Mo_wipe_23 rfl ?_
      refine EV.getR fl_Mo_28 d_Mo_wipe_24 (by first | assumption | rfl) rfl ?_
      refine EV.iload_n d_Mo_wipe_27 rfl ?_
      refine EV.ialdN d_Mo_wipe_28 (by first | assumption | rfl) rfl rfl (by decide) (by first | decide | omega) ?_
      refine EV.top hC.1.2.1 ?_
      refine EV.istore_n d_Mo_wipe_29 (by decide) ?_
      refine EV.iload_n d_Mo_wipe_30 rfl ?_
      refine EV.iconst (v := nI 2) d_Mo_wipe_31 (by decide) ?_
      refine EV.icmp_neN (tgt := 43) d_Mo_wipe_32 (by decide) rfl rfl (by omega) (by omega) (fun h32 => ?_) (fun h32 => ?_)
      · refine EV.aload_n d_Mo_wipe_43 rfl ?_
        refine EV.getR fl_Mo_28 d_Mo_wipe_44 (by first | assumption | rfl) rfl ?_
        refine EV.iload_n d_Mo_wipe_47 rfl ?_
        refine EV.iconst (v := nI 0) d_Mo_wipe_48 (by decide) ?_
        refine EV.iastN d_Mo_wipe_49 (by first | assumption | rfl) rfl rfl (by decide) (by first | decide | omega) ?_
        refine EV.iload_n d_Mo_wipe_50 rfl ?_
        exact EV.ireturn d_Mo_wipe_51 ⟨_, rfl, rfl⟩ ⟨rfl, MI_line (j := 1) hI hC (by decide) (fun q _ q2 => mx_w_ne _ _ _ q2) (fun t ht => by rw [mx_w_eq]; simp [upd, ht]) (fun i hi => by rw [mx_w_ne _ _ _ (by omega)]) ⟨by rw [mx_w_eq]; simp [upd], fun i x hx => by simp at hx⟩, fun q hq => mx_w_ne _ _ _ (by omega)⟩
      · exfalso
        omega
    · exfalso
      omega
  · exfalso
    omega
set_option maxHeartbeats 4000000 in
set_option maxRecDepth 100000 in
theorem sp_Mo_wipe2 {G : mx_G} {d : Nat} {S : List mx_Sh} {D : mx_Mem} {σ : sg} (hS : SM S) (hC : MI D σ) (hI : SI σ) : EV G d m_Mo_wipe 0 (mx_lc0 m_Mo_wipe [.ref 80, .int (nI 2)]) [] S D S (PM D (sg_up σ 2 []) (nI (σ.1 2).length)) := by
  obtain ⟨hm0, hm1, hm2, hm3, hm4, hm5, hm6, hm7, hm8, hm9, hm10, hm11, hm12⟩ := id hS
  show EV _ _ _ _ [some (.ref 80), some (.int (nI 2)), none] [] _ _ _ _
  refine EV.iload_n d_Mo_wipe_0 rfl ?_
  refine EV.if_ltN (tgt := 9) d_Mo_wipe_1 rfl (by decide) (by decide) ?_
  refine EV.iload_n d_Mo_wipe_4 rfl ?_
  refine EV.iconst (v := nI 2) d_Mo_wipe_5 (by decide) ?_
  refine EV.icmp_leN (tgt := 11) d_Mo_wipe_6 (by decide) rfl rfl (by omega) (by omega) (fun h6 => ?_) (fun h6 => ?_)
  · refine EV.iload_n d_Mo_wipe_11 rfl ?_
    refine EV.iconst (v := nI 2) d_Mo_wipe_12 (by decide) ?_
    refine EV.icmp_neN (tgt := 23) d_Mo_wipe_13 (by decide) rfl rfl (by omega) (by omega) (fun h13 => ?_) (fun h13 => ?_)
    · exfalso
      omega
    · refine EV.aload_n d_Mo_wipe_16 rfl ?_
      refine EV.getI fl_Mo_53 d_Mo_wipe_17 (by first | assumption | rfl) rfl ?_
      refine EV.top hC.2.1.1 ?_
      refine EV.goto (tgt := 29) d_Mo_wipe_20 (by decide) ?_
      refine EV.istore_n d_Mo_wipe_29 (by decide) ?_
      refine EV.iload_n d_Mo_wipe_30 rfl ?_
      refine EV.iconst (v := nI 2) d_Mo_wipe_31 (by decide) ?_
      refine EV.icmp_neN (tgt := 43) d_Mo_wipe_32 (by decide) rfl rfl (by omega) (by omega) (fun h32 => ?_) (fun h32 => ?_)
      · exfalso
        omega
      · refine EV.aload_n d_Mo_wipe_35 rfl ?_
        refine EV.iconst (v := nI 0) d_Mo_wipe_36 (by decide) ?_
        refine EV.putI fl_Mo_53 d_Mo_wipe_37 (by first | assumption | rfl) rfl rfl rfl ?_
        refine EV.goto (tgt := 50) d_Mo_wipe_40 (by decide) ?_
        refine EV.iload_n d_Mo_wipe_50 rfl ?_
        exact EV.ireturn d_Mo_wipe_51 ⟨_, rfl, rfl⟩ ⟨rfl, MI_rule hC (fun q q1 _ => mx_w_ne _ _ _ q1) (fun j hj => by rw [mx_w_eq]; simp [upd, hj]) (by rw [mx_w_eq]; simp [upd]) (ar_nil _), fun q hq => mx_w_ne _ _ _ (by omega)⟩
  · exfalso
    omega
set_option maxHeartbeats 4000000 in
set_option maxRecDepth 100000 in
theorem sp_Mo_wipeN {G : mx_G} {d : Nat} {S : List mx_Sh} {D : mx_Mem} {σ : sg} (hS : SM S) (hC : MI D σ) (hI : SI σ) {x : Int32} (hx : x < 0 ∨ nI 3 ≤ x) : EV G d m_Mo_wipe 0 (mx_lc0 m_Mo_wipe [.ref 80, .int x]) [] S D S (PM D σ (-1)) := by
  obtain ⟨hm0, hm1, hm2, hm3, hm4, hm5, hm6, hm7, hm8, hm9, hm10, hm11, hm12⟩ := id hS
  show EV _ _ _ _ [some (.ref 80), some (.int x), none] [] _ _ _ _
  refine EV.iload_n d_Mo_wipe_0 rfl ?_
  refine EV.if_lt (tgt := 9) d_Mo_wipe_1 (by decide) (fun h1 => ?_) (fun h1 => ?_)
  · refine EV.iconst (v := (-1)) d_Mo_wipe_9 (by decide) ?_
    exact EV.ireturn d_Mo_wipe_10 ⟨_, rfl, rfl⟩ ⟨rfl, hC, fun _ _ => rfl⟩
  · refine EV.iload_n d_Mo_wipe_4 rfl ?_
    refine EV.iconst (v := nI 2) d_Mo_wipe_5 (by decide) ?_
    refine EV.icmp_le (tgt := 11) d_Mo_wipe_6 (by decide) (fun h6 => ?_) (fun h6 => ?_)
    · exfalso
      exact hx.elim h1 (fun h => absurd (Int32.le_trans h h6) (by decide))
    · refine EV.iconst (v := (-1)) d_Mo_wipe_9 (by decide) ?_
      exact EV.ireturn d_Mo_wipe_10 ⟨_, rfl, rfl⟩ ⟨rfl, hC, fun _ _ => rfl⟩
set_option maxHeartbeats 4000000 in
set_option maxRecDepth 100000 in
theorem rf_wipe {G : mx_G} {d : Nat} {S : List mx_Sh} {D : mx_Mem} {σ : sg} (hS : SM S) (hC : MI D σ) (hI : SI σ) {x : Int32} : EV G d m_Mo_wipe 0 (mx_lc0 m_Mo_wipe [.ref 80, .int x]) [] S D S (PM D (op_wipe σ x).2 (op_wipe σ x).1) := by
  rcases pk_ix x (n := 3) (by decide) with h | h | ⟨j, hj, rfl⟩
  · have e : op_wipe σ x = (-1, σ) := by unfold op_wipe; rw [ln3_n (Or.inl h)]
    rw [e]
    exact sp_Mo_wipeN hS hC hI (Or.inl h)
  · have e : op_wipe σ x = (-1, σ) := by unfold op_wipe; rw [ln3_n (Or.inr h)]
    rw [e]
    exact sp_Mo_wipeN hS hC hI (Or.inr h)
  · rcases (show j = 0 ∨ j = 1 ∨ j = 2 by omega) with rfl | rfl | rfl
    · exact sp_Mo_wipe0 hS hC hI
    · exact sp_Mo_wipe1 hS hC hI
    · exact sp_Mo_wipe2 hS hC hI
set_option maxHeartbeats 4000000 in
set_option maxRecDepth 100000 in
theorem rf_entries {G : mx_G} {d : Nat} {S : List mx_Sh} {D : mx_Mem} {σ : sg} (hS : SM S) (hC : MI D σ) (hI : SI σ) : EV G d m_Mo_entries 0 (mx_lc0 m_Mo_entries [.ref 80]) [] S D S (PM D σ (nI σ.2.1.length)) := by
  obtain ⟨hm0, hm1, hm2, hm3, hm4, hm5, hm6, hm7, hm8, hm9, hm10, hm11, hm12⟩ := id hS
  show EV _ _ _ _ [some (.ref 80)] [] _ _ _ _
  refine EV.aload_n d_Mo_entries_0 rfl ?_
  refine EV.getI fl_Mo_50 d_Mo_entries_1 (by first | assumption | rfl) rfl ?_
  refine EV.top hC.2.2.1.1 ?_
  exact EV.ireturn d_Mo_entries_4 ⟨_, rfl, rfl⟩ ⟨rfl, hC, fun _ _ => rfl⟩
set_option maxHeartbeats 4000000 in
set_option maxRecDepth 100000 in
theorem rf_filed {G : mx_G} {d : Nat} {S : List mx_Sh} {D : mx_Mem} {σ : sg} (hS : SM S) (hC : MI D σ) (hI : SI σ) : EV G d m_Mo_filed 0 (mx_lc0 m_Mo_filed [.ref 80]) [] S D S (PM D σ (nI σ.2.2.2.1.length)) := by
  obtain ⟨hm0, hm1, hm2, hm3, hm4, hm5, hm6, hm7, hm8, hm9, hm10, hm11, hm12⟩ := id hS
  show EV _ _ _ _ [some (.ref 80)] [] _ _ _ _
  refine EV.aload_n d_Mo_filed_0 rfl ?_
  refine EV.getI fl_Mo_149 d_Mo_filed_1 (by first | assumption | rfl) rfl ?_
  refine EV.top hC.2.2.2.2.1.1 ?_
  exact EV.ireturn d_Mo_filed_4 ⟨_, rfl, rfl⟩ ⟨rfl, hC, fun _ _ => rfl⟩
theorem MI_form {D D' : mx_Mem} {σ : sg} {x : Nat} {b1 b2 : Bool} (h : MI D σ) (hF : ∀ k, ¬ k = 80 → D' k = D k) (h0 : ∀ j, ¬ j = 13 → ¬ j = 14 → ¬ j = 15 → D' 80 j = D 80 j) (h1 : D' 80 13 = nI x) (h2 : D' 80 14 = bI b1) (h3 : D' 80 15 = bI b2) : MI D' (σ.1, σ.2.1, (x, b1, b2), σ.2.2.2) := by
  obtain ⟨⟨a1, a2⟩, ⟨c1, c2⟩, ⟨d1, d2⟩, -, ⟨e1, e2⟩, f1⟩ := h
  unfold MI MF TX at *
  rw [h0 0 (by omega) (by omega) (by omega), h0 7 (by omega) (by omega) (by omega), h0 11 (by omega) (by omega) (by omega), h0 12 (by omega) (by omega) (by omega), hF 81 (by omega), hF 82 (by omega), hF 85 (by omega), hF 86 (by omega), hF 87 (by omega), hF 88 (by omega)]
  exact ⟨⟨a1, a2⟩, ⟨c1, c2⟩, ⟨d1, d2⟩, ⟨h1, h2, h3⟩, ⟨e1, e2⟩, f1⟩
set_option maxHeartbeats 4000000 in
set_option maxRecDepth 100000 in
theorem rf_form {G : mx_G} {d : Nat} {S : List mx_Sh} {D : mx_Mem} {σ : sg} (hS : SM S) (hC : MI D σ) (hI : SI σ) {x : Int32} {b1 b2 : Bool} : EV G d m_Mo_form 0 (mx_lc0 m_Mo_form [.ref 80, .int x, .int (bI b1), .int (bI b2)]) [] S D S (PM D (op_form σ x b1 b2).2 (op_form σ x b1 b2).1) := by
  obtain ⟨hm0, hm1, hm2, hm3, hm4, hm5, hm6, hm7, hm8, hm9, hm10, hm11, hm12⟩ := id hS
  show EV _ _ _ _ [some (.ref 80), some (.int x), some (.int (bI b1)), some (.int (bI b2))] [] _ _ _ _
  refine EV.iload_n d_Mo_form_0 rfl ?_
  refine EV.iconst (v := nI 1) d_Mo_form_1 (by decide) ?_
  refine EV.icmp_lt (tgt := 10) d_Mo_form_2 (by decide) (fun h2 => ?_) (fun h2 => ?_)
  · have e : op_form σ x b1 b2 = (nI 0, σ) := by unfold op_form; rw [if_pos (Or.inl h2)]
    rw [e]
    refine EV.iconst (v := nI 0) d_Mo_form_10 (by decide) ?_
    exact EV.ireturn d_Mo_form_11 ⟨_, rfl, rfl⟩ ⟨rfl, hC, fun _ _ => rfl⟩
  · refine EV.iload_n d_Mo_form_5 rfl ?_
    refine EV.iconst (v := nI 4) d_Mo_form_6 (by decide) ?_
    refine EV.icmp_le (tgt := 12) d_Mo_form_7 (by decide) (fun h7 => ?_) (fun h7 => ?_)
    · have e : op_form σ x b1 b2 = (nI 1, (σ.1, σ.2.1, (x.toNatClampNeg, b1, b2), σ.2.2.2)) := by unfold op_form; rw [if_neg (fun h => h.elim h2 (fun h => Int32.not_lt.mpr h7 h))]
      rw [e]
      obtain ⟨j, hj, rfl⟩ : ∃ j : Nat, j < 5 ∧ x = nI j := by
        rcases pk_ix x (n := 5) (by decide) with h | h | ⟨j, hj, rfl⟩
        · exact absurd (Int32.lt_trans h (by decide)) h2
        · exact absurd (Int32.le_trans h h7) (by decide)
        · exact ⟨j, hj, rfl⟩
      rw [nI_clamp (by omega)]
      refine EV.aload_n d_Mo_form_12 rfl ?_
      refine EV.iload_n d_Mo_form_13 rfl ?_
      refine EV.putI fl_Mo_34 d_Mo_form_14 (by first | assumption | rfl) rfl rfl rfl ?_
      refine EV.aload_n d_Mo_form_17 rfl ?_
      refine EV.iload_n d_Mo_form_18 rfl ?_
      refine EV.putI fl_Mo_108 d_Mo_form_19 (by first | assumption | rfl) rfl (bI_nr _) (bI_ft _) ?_
      refine EV.aload_n d_Mo_form_22 rfl ?_
      refine EV.iload_n d_Mo_form_23 rfl ?_
      refine EV.putI fl_Mo_140 d_Mo_form_24 (by first | assumption | rfl) rfl (bI_nr _) (bI_ft _) ?_
      refine EV.iconst (v := nI 1) d_Mo_form_27 (by decide) ?_
      exact EV.ireturn d_Mo_form_28 ⟨_, rfl, rfl⟩ ⟨rfl, MI_form hC (fun k hk => by simp [mx_w, va_up, hk]) (fun j a b c => by simp [mx_w, va_up, upd, a, b, c]) (by simp [mx_w, va_up, upd]) (by simp [mx_w, va_up, upd]) (by simp [mx_w, va_up, upd]), fun q hq => by simp [mx_w, va_up, show ¬ q = 80 by omega]⟩
    · have e : op_form σ x b1 b2 = (nI 0, σ) := by unfold op_form; rw [if_pos (Or.inr (Int32.not_le.mp h7))]
      rw [e]
      refine EV.iconst (v := nI 0) d_Mo_form_10 (by decide) ?_
      exact EV.ireturn d_Mo_form_11 ⟨_, rfl, rfl⟩ ⟨rfl, hC, fun _ _ => rfl⟩
