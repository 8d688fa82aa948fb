set_option maxHeartbeats 4000000 in
set_option maxRecDepth 100000 in
theorem lp_To_entry {G : mx_G} {d : Nat} {S : List mx_Sh} {D : mx_Mem} {σ : sg} (hS : SH S) (hC : CI D σ) (hI : SI σ) {i : Nat} {y : Int32} {e : List Nat × Nat} (he : σ.2.1[i]? = some e) : EV G (d + 1) m_To_entry 19 [some (.ref 0), some (.int (nI i)), some (.int y), none] [.int y] S D S (PC D σ (op_ent σ (nI i) y)) := by
  obtain ⟨hz0, hz1, hz2, ⟨hL3, hL7, hL11⟩, ⟨hK5, hK9⟩, ⟨hT13, hT19⟩, hR25, hM28, hF36⟩ := id hS
  obtain ⟨hf0, hf1, hf2, hf3, hf4⟩ := id hF36
  have hl10 := hI.2.2.2.2.2.1
  obtain ⟨hs0, hs1, hs2, hs3, hs4, hs5⟩ := id hT13
  have hil : i < σ.2.1.length := (List.getElem?_eq_some_iff.mp he).1
  have h30 := hI.2.2.1.2.1
  have hso := (hI.2.2.1.1 e (List.mem_of_getElem? he)).1
  have hb := ps_enc_b (b := 256) (Or.inr rfl) hso
  have hdig : ∀ k, e.1.getD k 0 < 2 ^ 31 := fun k => by
    rcases Nat.lt_or_ge k e.1.length with q | q
    · have := (hso.2.2 _ (List.getElem_mem q)).2
      simp [q]; omega
    · simp [q]
  have hop : op_ent σ (nI i) y = if y = nI 0 ∨ y = nI 1 ∨ y = nI 2 then (if e.1.getD y.toNatClampNeg 0 = 0 then -1 else nI (e.1.getD y.toNatClampNeg 0)) else if y = nI 3 then nI e.2 else if y = nI 4 then nI (ps_wt (ps_stp σ.2.1) (i + 1)).1 else if y = nI 5 then nI (ps_wt (ps_stp σ.2.1) (i + 1)).2.1 else if y = nI 6 then nI (ps_wt (ps_stp σ.2.1) (i + 1)).2.2 else -2 := by
    unfold op_ent
    rw [if_neg (fun h => h.elim (nI_pos (by omega)) (nI_ge hil (by omega))), nI_clamp (by omega), he]
  have out : (y < 0 ∨ nI 7 ≤ y) → EV G (d + 1) m_To_entry 19 [some (.ref 0), some (.int (nI i)), some (.int y), none] [.int y] S D S (PC D σ (op_ent σ (nI i) y)) := by
    intro h
    have ho : y.toInt < 0 ∨ (6 : Int) < y.toInt := by
      rcases h with h | h
      · left
        simpa using Int32.lt_iff_toInt_lt.mp h
      · right
        have := Int32.le_iff_toInt_le.mp h
        rw [nI_toInt (by decide)] at this
        omega
    have hne : ∀ k : Nat, k < 7 → ¬ y = nI k := fun k hk q => by
      subst q
      rcases h with h | h
      · exact nI_pos (by omega) h
      · exact nI_ge hk (by decide) h
    refine EV.tOut (tgt := 124) d_To_entry_19 ho (by decide) ?_
    refine EV.bipush (v := (-2)) d_To_entry_124 (by decide) ?_
    exact EV.ireturn d_To_entry_126 ⟨_, rfl, rfl⟩ ⟨by rw [hop, if_neg (fun q => q.elim (hne 0 (by decide)) (fun q => q.elim (hne 1 (by decide)) (hne 2 (by decide)))), if_neg (hne 3 (by decide)), if_neg (hne 4 (by decide)), if_neg (hne 5 (by decide)), if_neg (hne 6 (by decide))], hC, fun _ _ => rfl⟩
  rcases pk_ix y (n := 7) (by decide) with h | h | ⟨k, hk, rfl⟩
  · exact out (Or.inl h)
  · exact out (Or.inr h)
  rcases (show k = 0 ∨ k = 1 ∨ k = 2 ∨ k = 3 ∨ k = 4 ∨ k = 5 ∨ k = 6 by omega) with rfl | rfl | rfl | rfl | rfl | rfl | rfl
  · refine EV.tIn (off := 41) (tgt := 60) d_To_entry_19 (by decide) (by decide) (by decide) (by decide) ?_
    refine EV.aload_n d_To_entry_60 rfl ?_
    refine EV.getR fl_To_28 d_To_entry_61 (by first | assumption | rfl) rfl ?_
    refine EV.getR fl_To_91 d_To_entry_64 hs0 rfl ?_
    refine EV.iload_n d_To_entry_67 rfl ?_
    refine EV.ialdN d_To_entry_68 hs1 rfl rfl (by omega) (by first | decide | omega) ?_
    refine EV.top (hC.2.1.2.1 i e he).1 ?_
    refine EV.iload_n d_To_entry_69 rfl ?_
    refine EV.T2 cs_To_95 d_To_entry_70 (sp_To_characterOf (n := 0) (by omega) (by omega)) ⟨Nat.le_refl _, Nat.le_refl _⟩ rfl rfl (Nat.le_of_ble_eq_true rfl) (fun rv D1 hp => ?_)
    obtain ⟨rfl, hD⟩ := hp
    obtain rfl := hD.symm
    rw [ps_enc_dig (by decide) 0 e.1 (fun c hc => by have := (hso.2.2 c hc).2; omega)]
    refine EV.istore_n d_To_entry_73 (by decide) ?_
    refine EV.iload_n d_To_entry_74 rfl ?_
    refine EV.if_neN (tgt := 82) d_To_entry_75 (by decide) rfl (hdig 0) (fun h75 => ?_) (fun h75 => ?_)
    · refine EV.iload_n d_To_entry_82 rfl ?_
      exact EV.ireturn d_To_entry_83 ⟨_, rfl, rfl⟩ ⟨by rw [hop, nI_clamp (by decide), if_pos (by decide)]; first | rw [if_neg h75] | rw [if_pos h75], hC, fun _ _ => rfl⟩
    · refine EV.iconst (v := (-1)) d_To_entry_78 (by decide) ?_
      refine EV.goto (tgt := 83) d_To_entry_79 (by decide) ?_
      exact EV.ireturn d_To_entry_83 ⟨_, rfl, rfl⟩ ⟨by rw [hop, nI_clamp (by decide), if_pos (by decide)]; first | rw [if_neg h75] | rw [if_pos h75], hC, fun _ _ => rfl⟩
  · refine EV.tIn (off := 41) (tgt := 60) d_To_entry_19 (by decide) (by decide) (by decide) (by decide) ?_
    refine EV.aload_n d_To_entry_60 rfl ?_
    refine EV.getR fl_To_28 d_To_entry_61 (by first | assumption | rfl) rfl ?_
    refine EV.getR fl_To_91 d_To_entry_64 hs0 rfl ?_
    refine EV.iload_n d_To_entry_67 rfl ?_
    refine EV.ialdN d_To_entry_68 hs1 rfl rfl (by omega) (by first | decide | omega) ?_
    refine EV.top (hC.2.1.2.1 i e he).1 ?_
    refine EV.iload_n d_To_entry_69 rfl ?_
    refine EV.T2 cs_To_95 d_To_entry_70 (sp_To_characterOf (n := 1) (by omega) (by omega)) ⟨Nat.le_refl _, Nat.le_refl _⟩ rfl rfl (Nat.le_of_ble_eq_true rfl) (fun rv D1 hp => ?_)
    obtain ⟨rfl, hD⟩ := hp
    obtain rfl := hD.symm
    rw [ps_enc_dig (by decide) 1 e.1 (fun c hc => by have := (hso.2.2 c hc).2; omega)]
    refine EV.istore_n d_To_entry_73 (by decide) ?_
    refine EV.iload_n d_To_entry_74 rfl ?_
    refine EV.if_neN (tgt := 82) d_To_entry_75 (by decide) rfl (hdig 1) (fun h75 => ?_) (fun h75 => ?_)
    · refine EV.iload_n d_To_entry_82 rfl ?_
      exact EV.ireturn d_To_entry_83 ⟨_, rfl, rfl⟩ ⟨by rw [hop, nI_clamp (by decide), if_pos (by decide)]; first | rw [if_neg h75] | rw [if_pos h75], hC, fun _ _ => rfl⟩
    · refine EV.iconst (v := (-1)) d_To_entry_78 (by decide) ?_
      refine EV.goto (tgt := 83) d_To_entry_79 (by decide) ?_
      exact EV.ireturn d_To_entry_83 ⟨_, rfl, rfl⟩ ⟨by rw [hop, nI_clamp (by decide), if_pos (by decide)]; first | rw [if_neg h75] | rw [if_pos h75], hC, fun _ _ => rfl⟩
  · refine EV.tIn (off := 41) (tgt := 60) d_To_entry_19 (by decide) (by decide) (by decide) (by decide) ?_
    refine EV.aload_n d_To_entry_60 rfl ?_
    refine EV.getR fl_To_28 d_To_entry_61 (by first | assumption | rfl) rfl ?_
    refine EV.getR fl_To_91 d_To_entry_64 hs0 rfl ?_
    refine EV.iload_n d_To_entry_67 rfl ?_
    refine EV.ialdN d_To_entry_68 hs1 rfl rfl (by omega) (by first | decide | omega) ?_
    refine EV.top (hC.2.1.2.1 i e he).1 ?_
    refine EV.iload_n d_To_entry_69 rfl ?_
    refine EV.T2 cs_To_95 d_To_entry_70 (sp_To_characterOf (n := 2) (by omega) (by omega)) ⟨Nat.le_refl _, Nat.le_refl _⟩ rfl rfl (Nat.le_of_ble_eq_true rfl) (fun rv D1 hp => ?_)
    obtain ⟨rfl, hD⟩ := hp
    obtain rfl := hD.symm
    rw [ps_enc_dig (by decide) 2 e.1 (fun c hc => by have := (hso.2.2 c hc).2; omega)]
    refine EV.istore_n d_To_entry_73 (by decide) ?_
    refine EV.iload_n d_To_entry_74 rfl ?_
    refine EV.if_neN (tgt := 82) d_To_entry_75 (by decide) rfl (hdig 2) (fun h75 => ?_) (fun h75 => ?_)
    · refine EV.iload_n d_To_entry_82 rfl ?_
      exact EV.ireturn d_To_entry_83 ⟨_, rfl, rfl⟩ ⟨by rw [hop, nI_clamp (by decide), if_pos (by decide)]; first | rw [if_neg h75] | rw [if_pos h75], hC, fun _ _ => rfl⟩
    · refine EV.iconst (v := (-1)) d_To_entry_78 (by decide) ?_
      refine EV.goto (tgt := 83) d_To_entry_79 (by decide) ?_
      exact EV.ireturn d_To_entry_83 ⟨_, rfl, rfl⟩ ⟨by rw [hop, nI_clamp (by decide), if_pos (by decide)]; first | rw [if_neg h75] | rw [if_pos h75], hC, fun _ _ => rfl⟩
  · refine EV.tIn (off := 65) (tgt := 84) d_To_entry_19 (by decide) (by decide) (by decide) (by decide) ?_
    refine EV.aload_n d_To_entry_84 rfl ?_
    refine EV.getR fl_To_28 d_To_entry_85 (by first | assumption | rfl) rfl ?_
    refine EV.getR fl_To_99 d_To_entry_88 hs0 rfl ?_
    refine EV.iload_n d_To_entry_91 rfl ?_
    refine EV.ialdN d_To_entry_92 hs2 rfl rfl (by omega) (by first | decide | omega) ?_
    refine EV.top (hC.2.1.2.1 i e he).2 ?_
    exact EV.ireturn d_To_entry_93 ⟨_, rfl, rfl⟩ ⟨by rw [hop, if_neg (by decide), if_pos rfl], hC, fun _ _ => rfl⟩
  · refine EV.tIn (off := 75) (tgt := 94) d_To_entry_19 (by decide) (by decide) (by decide) (by decide) ?_
    refine EV.aload_n d_To_entry_94 rfl ?_
    refine EV.getR fl_To_28 d_To_entry_95 (by first | assumption | rfl) rfl ?_
    refine EV.getR fl_To_102 d_To_entry_98 hs0 rfl ?_
    refine EV.iload_n d_To_entry_101 rfl ?_
    refine EV.ialdN d_To_entry_102 hs3 rfl rfl (by omega) (by first | decide | omega) ?_
    refine EV.top (hC.2.1.2.2 i hil).1 ?_
    exact EV.ireturn d_To_entry_103 ⟨_, rfl, rfl⟩ ⟨by rw [hop, if_neg (by decide), if_neg (by decide), if_pos rfl], hC, fun _ _ => rfl⟩
  · refine EV.tIn (off := 85) (tgt := 104) d_To_entry_19 (by decide) (by decide) (by decide) (by decide) ?_
    refine EV.aload_n d_To_entry_104 rfl ?_
    refine EV.getR fl_To_28 d_To_entry_105 (by first | assumption | rfl) rfl ?_
    refine EV.getR fl_To_105 d_To_entry_108 hs0 rfl ?_
    refine EV.iload_n d_To_entry_111 rfl ?_
    refine EV.ialdN d_To_entry_112 hs4 rfl rfl (by omega) (by first | decide | omega) ?_
    refine EV.top (hC.2.1.2.2 i hil).2.1 ?_
    exact EV.ireturn d_To_entry_113 ⟨_, rfl, rfl⟩ ⟨by rw [hop, if_neg (by decide), if_neg (by decide), if_neg (by decide), if_pos rfl], hC, fun _ _ => rfl⟩
  · refine EV.tIn (off := 95) (tgt := 114) d_To_entry_19 (by decide) (by decide) (by decide) (by decide) ?_
    refine EV.aload_n d_To_entry_114 rfl ?_
    refine EV.getR fl_To_28 d_To_entry_115 (by first | assumption | rfl) rfl ?_
    refine EV.getR fl_To_108 d_To_entry_118 hs0 rfl ?_
    refine EV.iload_n d_To_entry_121 rfl ?_
    refine EV.ialdN d_To_entry_122 hs5 rfl rfl (by omega) (by first | decide | omega) ?_
    refine EV.top (hC.2.1.2.2 i hil).2.2 ?_
    exact EV.ireturn d_To_entry_123 ⟨_, rfl, rfl⟩ ⟨by rw [hop, if_neg (by decide), if_neg (by decide), if_neg (by decide), if_neg (by decide), if_pos rfl], hC, fun _ _ => rfl⟩
set_option maxHeartbeats 4000000 in
set_option maxRecDepth 100000 in
theorem cl_ent {G : mx_G} {d : Nat} {S : List mx_Sh} {D : mx_Mem} {σ : sg} (hS : SH S) (hC : CI D σ) (hI : SI σ) {x y : Int32} : EV G (d + 1) m_To_entry 0 (mx_lc0 m_To_entry [.ref 0, .int x, .int y]) [] S D S (PC D σ (op_ent σ x y)) := by
  obtain ⟨hz0, hz1, hz2, ⟨hL3, hL7, hL11⟩, ⟨hK5, hK9⟩, ⟨hT13, hT19⟩, hR25, hM28, hF36⟩ := id hS
  obtain ⟨hf0, hf1, hf2, hf3, hf4⟩ := id hF36
  have hl10 := hI.2.2.2.2.2.1
  show EV _ _ _ _ [some (.ref 0), some (.int x), some (.int y), none] [] _ _ _ _
  refine EV.iload_n d_To_entry_0 rfl ?_
  refine EV.if_lt (tgt := 15) d_To_entry_1 (by decide) (fun h1 => ?_) (fun h1 => ?_)
  · refine EV.bipush (v := (-2)) d_To_entry_15 (by decide) ?_
    exact EV.ireturn d_To_entry_17 ⟨_, rfl, rfl⟩ ⟨by unfold op_ent; rw [if_pos (by first | exact Or.inl h1 | exact Or.inr (Int32.not_lt.mp h12))], hC, fun _ _ => rfl⟩
  · refine EV.iload_n d_To_entry_4 rfl ?_
    refine EV.aload_n d_To_entry_5 rfl ?_
    refine EV.getR fl_To_28 d_To_entry_6 (by first | assumption | rfl) rfl ?_
    refine EV.getI fl_To_87 d_To_entry_9 hT13.1 rfl ?_
    refine EV.top hC.2.1.1 ?_
    refine EV.icmp_lt (tgt := 18) d_To_entry_12 (by decide) (fun h12 => ?_) (fun h12 => ?_)
    · obtain ⟨i, hi, rfl⟩ : ∃ i, i < σ.2.1.length ∧ x = nI i := by
        rcases pk_ix x (n := σ.2.1.length) (by have := hI.2.2.1.2.1; omega) with h | h | ⟨i, hi, rfl⟩
        · exact absurd h h1
        · exact absurd h12 (Int32.not_lt.mpr h)
        · exact ⟨i, hi, rfl⟩
      refine EV.iload_n d_To_entry_18 rfl ?_
      exact lp_To_entry hS hC hI (List.getElem?_eq_getElem hi)
    · refine EV.bipush (v := (-2)) d_To_entry_15 (by decide) ?_
      exact EV.ireturn d_To_entry_17 ⟨_, rfl, rfl⟩ ⟨by unfold op_ent; rw [if_pos (by first | exact Or.inl h1 | exact Or.inr (Int32.not_lt.mp h12))], hC, fun _ _ => rfl⟩
theorem CI_tab {D D' : mx_Mem} {σ : sg} {tb : ps_T} (h : CI D σ) (hl : σ.2.2.2.1.length ≤ 10) (hF : ∀ q, (q < 13 ∨ 27 < q) → D' q = D q) (hB : TBw D' 13 tb) : CI D' (σ.1, tb, σ.2.2) := by
  obtain ⟨⟨h1, h2, h3⟩, -, ⟨h5, h6, h7⟩, h8, h9⟩ := h
  exact ⟨⟨LN_kept h1 (hF _ (by omega)) (hF _ (by omega)), LN_kept h2 (hF _ (by omega)) (hF _ (by omega)), LN_kept h3 (hF _ (by omega)) (hF _ (by omega))⟩, hB, ⟨by rw [hF 28 (by omega)]; exact h5, by rw [hF 28 (by omega)]; exact h6, by rw [hF 28 (by omega)]; exact h7⟩, FO_kept h8 hl (by rw [hF _ (by omega)]) (hF _ (by omega)) (fun i hi => ⟨hF _ (by omega), hF _ (by omega)⟩), by rw [hF _ (by omega)]; exact h9⟩
theorem nI_neg1 {p : Nat} (h : p < 2 ^ 29) : (-1 - nI p : Int32) < 0 := by
  have e : (-1 - nI p : Int32) = nI 0 - nI (p + 1) := by
    rw [← nI_1, nI_0]
    have := Int32.sub_eq_add_neg (-1) (nI p)
    rw [this, Int32.zero_sub, Int32.neg_add, Int32.sub_eq_add_neg]
    exact Int32.add_comm _ _
  rw [e]
  exact pk_sneg (by omega) (by omega)
theorem ru_rd_le : ∀ (xs : List Nat) (q : ru_Q) (i : Nat), match ru_rd q i xs with
    | .inl p => p < i + xs.length
    | .inr _ => True := by
  intro xs
  induction xs with
  | nil => intro q i; trivial
  | cons c r ih =>
    intro q i
    simp only [ru_rd]
    cases h : ru_st q c with
    | none => simp
    | some q' =>
      have := ih q' (i + 1)
      dsimp only
      revert this
      cases ru_rd q' (i + 1) r with
      | inl p => simp; omega
      | inr _ => simp
theorem ru_ans_le {xs : List Nat} {p : Nat} (h : ru_ans xs.length (ru_rd (0, 0, []) 0 xs) = .inl p) : p ≤ xs.length := by
  have := ru_rd_le xs (0, 0, []) 0
  revert this h
  cases ru_rd (0, 0, []) 0 xs with
  | inl q => simp only [ru_ans]; intro h1 h2; cases h1; omega
  | inr q =>
    simp only [ru_ans]
    intro h1 _
    split at h1
    · cases h1
    · cases h1; exact Nat.le_refl _
set_option maxHeartbeats 4000000 in
set_option maxRecDepth 100000 in
theorem cl_tail {G : mx_G} {d : Nat} {S : List mx_Sh} {D : mx_Mem} {σ : sg} (hS : SH S) (hC : CI D σ) (hI : SI σ) : EV G (d + 4) m_To_tailor 0 (mx_lc0 m_To_tailor [.ref 0]) [] S D S (PC D (op_tail σ).2 (op_tail σ).1) := by
  obtain ⟨hz0, hz1, hz2, ⟨hL3, hL7, hL11⟩, ⟨hK5, hK9⟩, ⟨hT13, hT19⟩, hR25, hM28, hF36⟩ := id hS
  obtain ⟨hf0, hf1, hf2, hf3, hf4⟩ := id hF36
  have hl10 := hI.2.2.2.2.2.1
  have hok := hI.2.2.1
  obtain ⟨hLa, hLb⟩ := id hL11
  show EV _ _ _ _ [some (.ref 0), none, none] [] _ _ _ _
  refine EV.aload_n d_To_tailor_0 rfl ?_
  refine EV.getR fl_To_38 d_To_tailor_1 (by first | assumption | rfl) rfl ?_
  refine EV.aload_n d_To_tailor_4 rfl ?_
  refine EV.getR fl_To_11 d_To_tailor_5 (by first | assumption | rfl) rfl ?_
  refine EV.iconst (v := nI 2) d_To_tailor_8 (by decide) ?_
  refine EV.aaldN d_To_tailor_9 (by first | assumption | rfl) rfl rfl rfl (by decide) rfl ?_
  refine EV.V1 cv_To_76 d_To_tailor_10 hR25.1 (sp_Ru_read (r := 25) (o := 11) (xs := σ.1 2) hR25 hL11 (by omega) hC.1.2.2 hI.2.1.1 (fun c hc => by have := hI.2.1.2 c hc; omega)) ⟨Nat.le_refl _, Nat.le_refl _⟩ rfl rfl (Nat.le_of_ble_eq_true rfl) (fun rv D1 hp => ?_)
  obtain ⟨a1, a2⟩ := hp
  have hC1 : CI D1 σ := CI_tab hC hl10 (fun q hq => a1 q (by omega) (by omega) (by omega)) (TBw_kept hC.2.1 (fun j hj => a1 _ (by omega) (by omega) (by omega)))
  cases hans : ru_ans (σ.1 2).length (ru_rd (0, 0, []) 0 (σ.1 2)) with
  | inl p =>
    rw [hans] at a2
    obtain rfl := a2
    have hpl := ru_ans_le hans
    have hop : op_tail σ = (-1 - nI p, sg_up σ 2 []) := by unfold op_tail; rw [hans]
    rw [hop]
    refine EV.istore_n d_To_tailor_13 (by decide) ?_
    refine EV.aload_n d_To_tailor_14 rfl ?_
    refine EV.getR fl_To_11 d_To_tailor_15 (by first | assumption | rfl) rfl ?_
    refine EV.iconst (v := nI 2) d_To_tailor_18 (by decide) ?_
    refine EV.aaldN d_To_tailor_19 (by first | assumption | rfl) rfl rfl rfl (by decide) rfl ?_
    refine EV.V0 cv_To_72 d_To_tailor_20 hLa (sp_Li_clear hL11 hC1.1.2.2) ⟨Nat.le_refl _, Nat.le_refl _⟩ rfl rfl (Nat.le_of_ble_eq_true rfl) (fun rv D2 hp => ?_)
    obtain ⟨b1, rfl, b2⟩ := hp
    have hC2 := CI_line (j := 2) hC1 hl10 (by decide) (fun q a _ => b1 q a) b2
    refine EV.pop d_To_tailor_23 rfl ?_
    refine EV.iload_n d_To_tailor_24 rfl ?_
    refine EV.if_ge (tgt := 30) d_To_tailor_25 (by decide) (fun h25 => absurd (nI_neg1 (p := p) (by have := hI.2.1.1; omega)) (Int32.not_lt.mpr h25)) (fun h25 => ?_)
    refine EV.iload_n d_To_tailor_28 rfl ?_
    exact EV.ireturn d_To_tailor_29 ⟨_, rfl, rfl⟩ ⟨rfl, hC2, fun q hq => (b1 q (by omega)).trans (a1 q (by omega) (by omega) (by omega))⟩
  | inr rl =>
    rw [hans] at a2
    obtain ⟨rfl, a3, a4, a5⟩ := a2
    have hrl := a5.2.1
    refine EV.istore_n d_To_tailor_13 (by decide) ?_
    refine EV.aload_n d_To_tailor_14 rfl ?_
    refine EV.getR fl_To_11 d_To_tailor_15 (by first | assumption | rfl) rfl ?_
    refine EV.iconst (v := nI 2) d_To_tailor_18 (by decide) ?_
    refine EV.aaldN d_To_tailor_19 (by first | assumption | rfl) rfl rfl rfl (by decide) rfl ?_
    refine EV.V0 cv_To_72 d_To_tailor_20 hLa (sp_Li_clear hL11 hC1.1.2.2) ⟨Nat.le_refl _, Nat.le_refl _⟩ rfl rfl (Nat.le_of_ble_eq_true rfl) (fun rv D2 hp => ?_)
    obtain ⟨b1, rfl, b2⟩ := hp
    have hC2 := CI_line (j := 2) hC1 hl10 (by decide) (fun q a _ => b1 q a) b2
    refine EV.pop d_To_tailor_23 rfl ?_
    refine EV.iload_n d_To_tailor_24 rfl ?_
    refine EV.if_ge (tgt := 30) d_To_tailor_25 (by decide) (fun h25 => ?_) (fun h25 => absurd (nI_pos' (by omega)) h25)
    refine EV.aload_n d_To_tailor_30 rfl ?_
    refine EV.getR fl_To_32 d_To_tailor_31 hz0 rfl ?_
    refine EV.aload_n d_To_tailor_34 rfl ?_
    refine EV.getR fl_To_28 d_To_tailor_35 hz0 rfl ?_
    refine EV.V1 cv_To_80 d_To_tailor_38 hT19.1 (EV.deep (d2 := d + 1) (by omega) (sp_Ta_copyFrom (t := 19) (o := 13) (cnt := σ.2.1.length) (sf := ps_stp σ.2.1) hT19 hT13 (by omega) hC2.2.1.1 hok.2.1 (TBf_stp hok hC2.2.1.2.1))) ⟨Nat.le_refl _, Nat.le_refl _⟩ rfl rfl (Nat.le_of_ble_eq_true rfl) (fun rv D3 hp => ?_)
    obtain ⟨rfl, c1, c2, c3, c4⟩ := hp
    have hB3 : TBf 256 (D3 (19 + 1)) (D3 (19 + 2)) σ.2.1 := (TBw_copy (t := 19) (o := 13) hok.2.1 (by rw [c1]; simp [upd]) hC2.2.1.2.1 c2 c3).2.1
    refine EV.aload_n d_To_tailor_41 rfl ?_
    refine EV.getR fl_To_32 d_To_tailor_42 hz0 rfl ?_
    refine EV.aload_n d_To_tailor_45 rfl ?_
    refine EV.getR fl_To_38 d_To_tailor_46 hz0 rfl ?_
    refine EV.V1 cv_To_83 d_To_tailor_49 hT19.1 (sp_Ta_follow (t := 19) (r := 25) (tb := σ.2.1) (rl := rl) hT19 hR25 (by omega) (by rw [c1]; simp [upd]) hB3 hok (by rw [c4 25 (by omega) (by omega) (by omega) (by omega) (by omega) (by omega), b1 25 (by omega)]; exact a3) (by rw [c4 26 (by omega) (by omega) (by omega) (by omega) (by omega) (by omega), b1 26 (by omega), c4 27 (by omega) (by omega) (by omega) (by omega) (by omega) (by omega), b1 27 (by omega)]; exact a4) a5) ⟨Nat.le_refl _, Nat.le_refl _⟩ rfl rfl (Nat.le_of_ble_eq_true rfl) (fun rv D4 hp => ?_)
    obtain ⟨d1, d2⟩ := hp
    cases hfo : ps_fol σ.2.1 rl with
    | inl c =>
      rw [hfo] at d2
      obtain rfl := d2
      have hop : op_tail σ = (c, sg_up σ 2 []) := by unfold op_tail; rw [hans]; dsimp only; rw [hfo]
      rw [hop]
      have hneg : c < 0 := by rcases ps_fol_neg hok a5 hfo with q | q | q <;> rw [q] <;> decide
      refine EV.istore_n d_To_tailor_52 (by decide) ?_
      refine EV.iload_n d_To_tailor_53 rfl ?_
      refine EV.if_lt (tgt := 68) d_To_tailor_54 (by decide) (fun h54 => ?_) (fun h54 => absurd hneg h54)
      refine EV.iload_n d_To_tailor_68 rfl ?_
      refine EV.ireturn d_To_tailor_69 ⟨_, rfl, rfl⟩ ⟨rfl, ?_, fun q hq => (d1 q (by omega) (by omega) (by omega)).trans ((c4 q (by omega) (by omega) (by omega) (by omega) (by omega) (by omega)).trans ((b1 q (by omega)).trans (a1 q (by omega) (by omega) (by omega))))⟩
      exact CI_tab hC2 hl10 (fun q hq => (d1 q (by omega) (by omega) (by omega)).trans (c4 q (by omega) (by omega) (by omega) (by omega) (by omega) (by omega))) (TBw_kept hC2.2.1 (fun j hj => (d1 _ (by omega) (by omega) (by omega)).trans (c4 _ (by omega) (by omega) (by omega) (by omega) (by omega) (by omega))))
    | inr tb' =>
      rw [hfo] at d2
      obtain ⟨rfl, hc2, hB2⟩ := d2
      have hok' := (ps_fol_ok hok a5 hfo).1
      have hop : op_tail σ = (nI tb'.length, ((sg_up σ 2 []).1, tb', σ.2.2)) := by unfold op_tail; rw [hans]; dsimp only; rw [hfo]
      rw [hop]
      refine EV.istore_n d_To_tailor_52 (by decide) ?_
      refine EV.iload_n d_To_tailor_53 rfl ?_
      refine EV.if_lt (tgt := 68) d_To_tailor_54 (by decide) (fun h54 => absurd h54 (nI_pos (by have := (ps_fol_ok hok a5 hfo).1.2.1; omega))) (fun h54 => ?_)
      refine EV.aload_n d_To_tailor_57 rfl ?_
      refine EV.getR fl_To_28 d_To_tailor_58 hz0 rfl ?_
      refine EV.aload_n d_To_tailor_61 rfl ?_
      refine EV.getR fl_To_32 d_To_tailor_62 hz0 rfl ?_
      refine EV.V1 cv_To_80 d_To_tailor_65 hT13.1 (sp_Ta_copyFrom (t := 13) (o := 19) (cnt := tb'.length) (sf := ps_stp tb') hT13 hT19 (by omega) hc2 hok'.2.1 (TBf_stp hok' hB2)) ⟨Nat.le_refl _, Nat.le_refl _⟩ rfl rfl (Nat.le_of_ble_eq_true rfl) (fun rv D5 hp => ?_)
      obtain ⟨rfl, e1, e2, e3, e4⟩ := hp
      refine EV.iload_n d_To_tailor_68 rfl ?_
      refine EV.ireturn d_To_tailor_69 ⟨_, rfl, rfl⟩ ⟨rfl, ?_, fun q hq => (e4 q (by omega) (by omega) (by omega) (by omega) (by omega) (by omega)).trans ((d1 q (by omega) (by omega) (by omega)).trans ((c4 q (by omega) (by omega) (by omega) (by omega) (by omega) (by omega)).trans ((b1 q (by omega)).trans (a1 q (by omega) (by omega) (by omega)))))⟩
      exact CI_tab hC2 hl10 (fun q hq => (e4 q (by omega) (by omega) (by omega) (by omega) (by omega) (by omega)).trans ((d1 q (by omega) (by omega) (by omega)).trans (c4 q (by omega) (by omega) (by omega) (by omega) (by omega) (by omega)))) (TBw_copy (t := 13) (o := 19) hok'.2.1 (by rw [e1]; simp [upd]) hB2 e2 e3)
