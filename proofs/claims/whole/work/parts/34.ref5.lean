def wl (L : Nat) (w : Nat × Nat × Nat) : Nat := if L = 1 then w.1 else if L = 2 then w.2.1 else w.2.2
theorem wl_s {L s : Nat} (w : Nat × Nat × Nat) (hL : L = 1 ∨ L = 2 ∨ L = 3) (hs : 1 ≤ s) : wl L (ps_ws w s) = if s < L then 1 else if s = L then wl L w + 1 else wl L w := by
  rcases (show s = 1 ∨ s = 2 ∨ s = 3 ∨ 4 ≤ s by omega) with rfl | rfl | rfl | h
  · rcases hL with rfl | rfl | rfl <;> rfl
  · rcases hL with rfl | rfl | rfl <;> rfl
  · rcases hL with rfl | rfl | rfl <;> rfl
  · have e : ps_ws w s = w := by
      unfold ps_ws
      rw [if_neg (by omega), if_neg (by omega), if_neg (by omega)]
    rw [e, if_neg (by omega), if_neg (by omega)]
theorem wl_le (L : Nat) (sf : Nat → Nat) (i : Nat) : wl L (ps_wt sf i) ≤ i + 1 := by
  have := ps_wt_le sf i
  unfold wl
  split
  · omega
  · split <;> omega
set_option maxHeartbeats 4000000 in
set_option maxRecDepth 100000 in
theorem lp_Mo_weight {G : mx_G} {d : Nat} {S : List mx_Sh} {D : mx_Mem} {tb : ps_T} {i L : Nat} (hS : SM S) (hok : ps_ok tb) (hB : TBf 128 (D 81) (D 82) tb) (hi : i < tb.length) (hL : L = 1 ∨ L = 2 ∨ L = 3) : ∀ (n k : Nat), k ≤ i + 1 → i + 1 - k = n → EV G d m_Mo_weight 14 [some (.ref 80), some (.int (nI i)), some (.int (nI L)), some (.int (nI (wl L (ps_wt (ps_stp tb) k)))), some (.int (nI k))] [] S D S (RI (nI (wl L (ps_wt (ps_stp tb) (i + 1)))) D) := by
  obtain ⟨hm0, hm1, hm2, hm3, hm4, hm5, hm6, hm7, hm8, hm9, hm10, hm11, hm12⟩ := id hS
  have hle := hok.2.1
  intro n
  induction n with
  | zero =>
    intro k h1 h2
    have ek : k = i + 1 := by omega
    subst ek
    refine EV.iload d_Mo_weight_14 rfl ?_
    refine EV.iload_n d_Mo_weight_16 rfl ?_
    refine EV.icmp_gtN (tgt := 56) d_Mo_weight_17 (by decide) rfl rfl (by omega) (by omega) (fun h17 => ?_) (fun h17 => ?_)
    · refine EV.iload_n d_Mo_weight_56 rfl ?_
      exact EV.ireturn d_Mo_weight_57 ⟨_, rfl, rfl⟩ ⟨rfl, rfl⟩
    · exfalso
      omega
  | succ n ih =>
    intro k h1 h2
    obtain ⟨hst, hsl⟩ := TBf_stp hok hB k (by omega)
    have hs1 : 1 ≤ ps_stp tb k := by
      have := (hok.1 _ (List.getElem_mem (show k < tb.length by omega))).2.1
      simp [ps_stp, show k < tb.length by omega]
      exact this
    have hw : wl L (ps_wt (ps_stp tb) (k + 1)) = _ := wl_s (ps_wt (ps_stp tb) k) hL hs1
    have hwl := wl_le L (ps_stp tb) k
    have J := ih (k + 1) (by omega) (by omega)
    refine EV.iload d_Mo_weight_14 rfl ?_
    refine EV.iload_n d_Mo_weight_16 rfl ?_
    refine EV.icmp_gtN (tgt := 56) d_Mo_weight_17 (by decide) rfl rfl (by omega) (by omega) (fun h17 => ?_) (fun h17 => ?_)
    · exfalso
      omega
    · refine EV.aload_n d_Mo_weight_20 rfl ?_
      refine EV.getR fl_Mo_13 d_Mo_weight_21 (by first | assumption | rfl) rfl ?_
      refine EV.iload d_Mo_weight_24 rfl ?_
      refine EV.ialdN d_Mo_weight_26 (by first | assumption | rfl) rfl rfl (by omega) (by first | decide | omega) ?_
      refine EV.iload_n d_Mo_weight_27 rfl ?_
      refine EV.icmp_geN (tgt := 36) d_Mo_weight_28 (by decide) hst rfl (by omega) (by omega) (fun h28 => ?_) (fun h28 => ?_)
      · refine EV.aload_n d_Mo_weight_36 rfl ?_
        refine EV.getR fl_Mo_13 d_Mo_weight_37 (by first | assumption | rfl) rfl ?_
        refine EV.iload d_Mo_weight_40 rfl ?_
        refine EV.ialdN d_Mo_weight_42 (by first | assumption | rfl) rfl rfl (by omega) (by first | decide | omega) ?_
        refine EV.iload_n d_Mo_weight_43 rfl ?_
        refine EV.icmp_neN (tgt := 50) d_Mo_weight_44 (by decide) hst rfl (by omega) (by omega) (fun h44 => ?_) (fun h44 => ?_)
        · refine EV.iincN d_Mo_weight_50 rfl (by decide) ?_
          refine EV.goto (tgt := 14) d_Mo_weight_53 (by decide) ?_
          first
          | (rw [if_pos (by omega)] at hw; rw [hw] at J; exact J)
          | (rw [if_neg (by omega), if_pos (by omega)] at hw; rw [hw] at J; exact J)
          | (rw [if_neg (by omega), if_neg (by omega)] at hw; rw [hw] at J; exact J)
        · refine EV.iincN d_Mo_weight_47 rfl (by decide) ?_
          refine EV.iincN d_Mo_weight_50 rfl (by decide) ?_
          refine EV.goto (tgt := 14) d_Mo_weight_53 (by decide) ?_
          first
          | (rw [if_pos (by omega)] at hw; rw [hw] at J; exact J)
          | (rw [if_neg (by omega), if_pos (by omega)] at hw; rw [hw] at J; exact J)
          | (rw [if_neg (by omega), if_neg (by omega)] at hw; rw [hw] at J; exact J)
      · refine EV.iconst (v := nI 1) d_Mo_weight_31 (by decide) ?_
        refine EV.istore_n d_Mo_weight_32 (by decide) ?_
        refine EV.goto (tgt := 50) d_Mo_weight_33 (by decide) ?_
        refine EV.iincN d_Mo_weight_50 rfl (by decide) ?_
        refine EV.goto (tgt := 14) d_Mo_weight_53 (by decide) ?_
        first
        | (rw [if_pos (by omega)] at hw; rw [hw] at J; exact J)
        | (rw [if_neg (by omega), if_pos (by omega)] at hw; rw [hw] at J; exact J)
        | (rw [if_neg (by omega), if_neg (by omega)] at hw; rw [hw] at J; exact J)
set_option maxHeartbeats 4000000 in
set_option maxRecDepth 100000 in
theorem sp_Mo_weight {G : mx_G} {d : Nat} {S : List mx_Sh} {D : mx_Mem} {tb : ps_T} {i L : Nat} (hS : SM S) (hok : ps_ok tb) (hB : TBf 128 (D 81) (D 82) tb) (hi : i < tb.length) (hL : L = 1 ∨ L = 2 ∨ L = 3) : EV G d m_Mo_weight 0 (mx_lc0 m_Mo_weight [.ref 80, .int (nI i), .int (nI L)]) [] S D S (RI (nI (wl L (ps_wt (ps_stp tb) (i + 1)))) D) := by
  show EV _ _ _ _ [some (.ref 80), some (.int (nI i)), some (.int (nI L)), none, none] [] _ _ _ _
  refine EV.iload_n d_Mo_weight_0 rfl ?_
  refine EV.iconst (v := nI 1) d_Mo_weight_1 (by decide) ?_
  refine EV.icmp_neN (tgt := 9) d_Mo_weight_2 (by decide) rfl rfl (by omega) (by omega) (fun h2 => ?_) (fun h2 => ?_)
  · refine EV.iconst (v := nI 1) d_Mo_weight_9 (by decide) ?_
    refine EV.istore_n d_Mo_weight_10 (by decide) ?_
    refine EV.iconst (v := nI 0) d_Mo_weight_11 (by decide) ?_
    refine EV.istore d_Mo_weight_12 (by decide) ?_
    have J := lp_Mo_weight (G := G) (d := d) hS hok hB hi hL (i + 1) 0 (by omega) rfl
    first
    | (have e : wl L (ps_wt (ps_stp tb) 0) = 1 := by rcases hL with h | h | h <;> first | (exfalso; exact h2 h) | (rw [h]; rfl)
       rw [e] at J; exact J)
    | exact J
  · subst h2
    refine EV.iconst (v := nI 0) d_Mo_weight_5 (by decide) ?_
    refine EV.goto (tgt := 10) d_Mo_weight_6 (by decide) ?_
    refine EV.istore_n d_Mo_weight_10 (by decide) ?_
    refine EV.iconst (v := nI 0) d_Mo_weight_11 (by decide) ?_
    refine EV.istore d_Mo_weight_12 (by decide) ?_
    have J := lp_Mo_weight (G := G) (d := d) hS hok hB hi hL (i + 1) 0 (by omega) rfl
    first
    | (have e : wl L (ps_wt (ps_stp tb) 0) = 1 := by rcases hL with h | h | h <;> first | (exfalso; exact h2 h) | (rw [h]; rfl)
       rw [e] at J; exact J)
    | exact J
set_option maxHeartbeats 4000000 in
set_option maxRecDepth 100000 in
theorem lp_Mo_entry {G : mx_G} {d : Nat} {S : List mx_Sh} {D : mx_Mem} {σ : sg} (hS : SM S) (hC : MI D σ) (hI : SI σ) {y : Int32} {i : Nat} {e : List Nat × Nat} (he : σ.2.1[i]? = some e) : EV G (d + 1) m_Mo_entry 12 [some (.ref 80), some (.int (nI i)), some (.int y), none] [] S D S (PM D σ (op_ent σ (nI i) y)) := by
  obtain ⟨hm0, hm1, hm2, hm3, hm4, hm5, hm6, hm7, hm8, hm9, hm10, hm11, hm12⟩ := id hS
  have hok := hI.2.2.1
  have hil := (List.getElem?_eq_some_iff.mp he).1
  have h30 := hok.2.1
  obtain ⟨v1, v2⟩ := hC.2.2.1.2 i e he
  have hso := (hok.1 e (List.mem_of_getElem? he)).1
  have hst := (hok.1 e (List.mem_of_getElem? he)).2
  have hel := ps_enc_b (Or.inl rfl) hso
  have hdig : ∀ k, e.1.getD k 0 < 2 ^ 31 := fun k => by
    rcases Nat.lt_or_ge k e.1.length with q | q
    · have := (hso.2.2 _ (List.getElem_mem q)).2
      simp [q]; omega
    · simp [q]
  have hop : op_ent σ (nI i) y = if y = nI 0 ∨ y = nI 1 ∨ y = nI 2 then (if e.1.getD y.toNatClampNeg 0 = 0 then -1 else nI (e.1.getD y.toNatClampNeg 0)) else if y = nI 3 then nI e.2 else if y = nI 4 then nI (ps_wt (ps_stp σ.2.1) (i + 1)).1 else if y = nI 5 then nI (ps_wt (ps_stp σ.2.1) (i + 1)).2.1 else if y = nI 6 then nI (ps_wt (ps_stp σ.2.1) (i + 1)).2.2 else -2 := by
    unfold op_ent
    rw [if_neg (fun h => h.elim (nI_pos (by omega)) (nI_ge hil (by omega))), nI_clamp (by omega), he]
  have hout : (y < 0 ∨ nI 7 ≤ y) → op_ent σ (nI i) y = -2 := fun h => by
    have hne : ∀ k : Nat, k < 7 → ¬ y = nI k := fun k hk q => by
      subst q
      rcases h with h | h
      · exact nI_pos (by omega) h
      · exact nI_ge hk (by decide) h
    rw [hop, if_neg (fun q => q.elim (hne 0 (by decide)) (fun q => q.elim (hne 1 (by decide)) (hne 2 (by decide)))), if_neg (hne 3 (by decide)), if_neg (hne 4 (by decide)), if_neg (hne 5 (by decide)), if_neg (hne 6 (by decide))]
  rcases pk_ix y (n := 7) (by decide) with h | h | ⟨k, hk, rfl⟩
  · refine EV.iload_n d_Mo_entry_12 rfl ?_
    refine EV.if_lt (tgt := 22) d_Mo_entry_13 (by decide) (fun _ => ?_) (fun q => absurd h q)
    refine EV.bipush (v := (-2)) d_Mo_entry_22 (by decide) ?_
    exact EV.ireturn d_Mo_entry_24 ⟨_, rfl, rfl⟩ ⟨by rw [hout (Or.inl h)], hC, fun _ _ => rfl⟩
  · refine EV.iload_n d_Mo_entry_12 rfl ?_
    refine EV.if_lt (tgt := 22) d_Mo_entry_13 (by decide) (fun q => absurd (Int32.lt_of_le_of_lt h q) (by decide)) (fun _ => ?_)
    refine EV.iload_n d_Mo_entry_16 rfl ?_
    refine EV.bipush (v := nI 6) d_Mo_entry_17 (by decide) ?_
    refine EV.icmp_le (tgt := 25) d_Mo_entry_19 (by decide) (fun q => absurd (Int32.le_trans h q) (by decide)) (fun _ => ?_)
    refine EV.bipush (v := (-2)) d_Mo_entry_22 (by decide) ?_
    exact EV.ireturn d_Mo_entry_24 ⟨_, rfl, rfl⟩ ⟨by rw [hout (Or.inr h)], hC, fun _ _ => rfl⟩
  · rcases (show k = 0 ∨ k = 1 ∨ k = 2 ∨ k = 3 ∨ k = 4 ∨ k = 5 ∨ k = 6 by omega) with rfl | rfl | rfl | rfl | rfl | rfl | rfl
    · refine EV.iload_n d_Mo_entry_12 rfl ?_
      refine EV.if_ltN (tgt := 22) d_Mo_entry_13 rfl (by decide) (by decide) ?_
      refine EV.iload_n d_Mo_entry_16 rfl ?_
      refine EV.bipush (v := nI 6) d_Mo_entry_17 (by decide) ?_
      refine EV.icmp_leN (tgt := 25) d_Mo_entry_19 (by decide) rfl rfl (by decide) (by decide) (fun _ => ?_) (fun q => absurd q (by decide))
      refine EV.iload_n d_Mo_entry_25 rfl ?_
      refine EV.iconst (v := nI 3) d_Mo_entry_26 (by decide) ?_
      refine EV.icmp_geN (tgt := 55) d_Mo_entry_27 (by decide) rfl rfl (by decide) (by decide) (fun q => absurd q (by decide)) (fun _ => ?_)
      refine EV.aload_n d_Mo_entry_30 rfl ?_
      refine EV.getR fl_Mo_7 d_Mo_entry_31 (by first | assumption | rfl) rfl ?_
      refine EV.iload_n d_Mo_entry_34 rfl ?_
      refine EV.ialdN d_Mo_entry_35 (by first | assumption | rfl) rfl rfl (by omega) (by first | decide | omega) ?_
      refine EV.bipush (v := nI 7) d_Mo_entry_36 (by decide) ?_
      refine EV.iload_n d_Mo_entry_38 rfl ?_
      refine EV.imul d_Mo_entry_39 ?_
      refine EV.ishr d_Mo_entry_40 ?_
      refine EV.bipush (v := nI 127) d_Mo_entry_41 (by decide) ?_
      refine EV.iand d_Mo_entry_43 ?_
      have ed : ps_enc 128 e.1 / 128 ^ 0 % 128 = e.1.getD 0 0 := ps_enc_dig (by decide) 0 e.1 (fun c hc => (hso.2.2 c hc).2)
      refine EV.top (y := nI (e.1.getD 0 0)) (by rw [v1, pk_shrN (by omega) (nI 7 * nI 0 &&& 31) 0 (by decide), pk_andN (by omega) (m := nI 127) 7 (by decide)]; exact congrArg nI ed) ?_
      refine EV.istore_n d_Mo_entry_44 (by decide) ?_
      refine EV.iload_n d_Mo_entry_45 rfl ?_
      refine EV.if_neN (tgt := 53) d_Mo_entry_46 (by decide) rfl (hdig _) (fun h46 => ?_) (fun h46 => ?_)
      · rw [hop, if_pos (by decide), nI_clamp (by decide), if_neg h46]
        refine EV.iload_n d_Mo_entry_53 rfl ?_
        exact EV.ireturn d_Mo_entry_54 ⟨_, rfl, rfl⟩ ⟨rfl, hC, fun _ _ => rfl⟩
      · rw [hop, if_pos (by decide), nI_clamp (by decide), if_pos h46]
        refine EV.iconst (v := (-1)) d_Mo_entry_49 (by decide) ?_
        refine EV.goto (tgt := 54) d_Mo_entry_50 (by decide) ?_
        exact EV.ireturn d_Mo_entry_54 ⟨_, rfl, rfl⟩ ⟨rfl, hC, fun _ _ => rfl⟩
    · refine EV.iload_n d_Mo_entry_12 rfl ?_
      refine EV.if_ltN (tgt := 22) d_Mo_entry_13 rfl (by decide) (by decide) ?_
      refine EV.iload_n d_Mo_entry_16 rfl ?_
      refine EV.bipush (v := nI 6) d_Mo_entry_17 (by decide) ?_
      refine EV.icmp_leN (tgt := 25) d_Mo_entry_19 (by decide) rfl rfl (by decide) (by decide) (fun _ => ?_) (fun q => absurd q (by decide))
      refine EV.iload_n d_Mo_entry_25 rfl ?_
      refine EV.iconst (v := nI 3) d_Mo_entry_26 (by decide) ?_
      refine EV.icmp_geN (tgt := 55) d_Mo_entry_27 (by decide) rfl rfl (by decide) (by decide) (fun q => absurd q (by decide)) (fun _ => ?_)
      refine EV.aload_n d_Mo_entry_30 rfl ?_
      refine EV.getR fl_Mo_7 d_Mo_entry_31 (by first | assumption | rfl) rfl ?_
      refine EV.iload_n d_Mo_entry_34 rfl ?_
      refine EV.ialdN d_Mo_entry_35 (by first | assumption | rfl) rfl rfl (by omega) (by first | decide | omega) ?_
      refine EV.bipush (v := nI 7) d_Mo_entry_36 (by decide) ?_
      refine EV.iload_n d_Mo_entry_38 rfl ?_
      refine EV.imul d_Mo_entry_39 ?_
      refine EV.ishr d_Mo_entry_40 ?_
      refine EV.bipush (v := nI 127) d_Mo_entry_41 (by decide) ?_
      refine EV.iand d_Mo_entry_43 ?_
      have ed : ps_enc 128 e.1 / 128 ^ 1 % 128 = e.1.getD 1 0 := ps_enc_dig (by decide) 1 e.1 (fun c hc => (hso.2.2 c hc).2)
      refine EV.top (y := nI (e.1.getD 1 0)) (by rw [v1, pk_shrN (by omega) (nI 7 * nI 1 &&& 31) 7 (by decide), pk_andN (by omega) (m := nI 127) 7 (by decide)]; exact congrArg nI ed) ?_
      refine EV.istore_n d_Mo_entry_44 (by decide) ?_
      refine EV.iload_n d_Mo_entry_45 rfl ?_
      refine EV.if_neN (tgt := 53) d_Mo_entry_46 (by decide) rfl (hdig _) (fun h46 => ?_) (fun h46 => ?_)
      · rw [hop, if_pos (by decide), nI_clamp (by decide), if_neg h46]
        refine EV.iload_n d_Mo_entry_53 rfl ?_
        exact EV.ireturn d_Mo_entry_54 ⟨_, rfl, rfl⟩ ⟨rfl, hC, fun _ _ => rfl⟩
      · rw [hop, if_pos (by decide), nI_clamp (by decide), if_pos h46]
        refine EV.iconst (v := (-1)) d_Mo_entry_49 (by decide) ?_
        refine EV.goto (tgt := 54) d_Mo_entry_50 (by decide) ?_
        exact EV.ireturn d_Mo_entry_54 ⟨_, rfl, rfl⟩ ⟨rfl, hC, fun _ _ => rfl⟩
    · refine EV.iload_n d_Mo_entry_12 rfl ?_
      refine EV.if_ltN (tgt := 22) d_Mo_entry_13 rfl (by decide) (by decide) ?_
      refine EV.iload_n d_Mo_entry_16 rfl ?_
      refine EV.bipush (v := nI 6) d_Mo_entry_17 (by decide) ?_
      refine EV.icmp_leN (tgt := 25) d_Mo_entry_19 (by decide) rfl rfl (by decide) (by decide) (fun _ => ?_) (fun q => absurd q (by decide))
      refine EV.iload_n d_Mo_entry_25 rfl ?_
      refine EV.iconst (v := nI 3) d_Mo_entry_26 (by decide) ?_
      refine EV.icmp_geN (tgt := 55) d_Mo_entry_27 (by decide) rfl rfl (by decide) (by decide) (fun q => absurd q (by decide)) (fun _ => ?_)
      refine EV.aload_n d_Mo_entry_30 rfl ?_
      refine EV.getR fl_Mo_7 d_Mo_entry_31 (by first | assumption | rfl) rfl ?_
      refine EV.iload_n d_Mo_entry_34 rfl ?_
      refine EV.ialdN d_Mo_entry_35 (by first | assumption | rfl) rfl rfl (by omega) (by first | decide | omega) ?_
      refine EV.bipush (v := nI 7) d_Mo_entry_36 (by decide) ?_
      refine EV.iload_n d_Mo_entry_38 rfl ?_
      refine EV.imul d_Mo_entry_39 ?_
      refine EV.ishr d_Mo_entry_40 ?_
      refine EV.bipush (v := nI 127) d_Mo_entry_41 (by decide) ?_
      refine EV.iand d_Mo_entry_43 ?_
      have ed : ps_enc 128 e.1 / 128 ^ 2 % 128 = e.1.getD 2 0 := ps_enc_dig (by decide) 2 e.1 (fun c hc => (hso.2.2 c hc).2)
      refine EV.top (y := nI (e.1.getD 2 0)) (by rw [v1, pk_shrN (by omega) (nI 7 * nI 2 &&& 31) 14 (by decide), pk_andN (by omega) (m := nI 127) 7 (by decide)]; exact congrArg nI ed) ?_
      refine EV.istore_n d_Mo_entry_44 (by decide) ?_
      refine EV.iload_n d_Mo_entry_45 rfl ?_
      refine EV.if_neN (tgt := 53) d_Mo_entry_46 (by decide) rfl (hdig _) (fun h46 => ?_) (fun h46 => ?_)
      · rw [hop, if_pos (by decide), nI_clamp (by decide), if_neg h46]
        refine EV.iload_n d_Mo_entry_53 rfl ?_
        exact EV.ireturn d_Mo_entry_54 ⟨_, rfl, rfl⟩ ⟨rfl, hC, fun _ _ => rfl⟩
      · rw [hop, if_pos (by decide), nI_clamp (by decide), if_pos h46]
        refine EV.iconst (v := (-1)) d_Mo_entry_49 (by decide) ?_
        refine EV.goto (tgt := 54) d_Mo_entry_50 (by decide) ?_
        exact EV.ireturn d_Mo_entry_54 ⟨_, rfl, rfl⟩ ⟨rfl, hC, fun _ _ => rfl⟩
    · refine EV.iload_n d_Mo_entry_12 rfl ?_
      refine EV.if_ltN (tgt := 22) d_Mo_entry_13 rfl (by decide) (by decide) ?_
      refine EV.iload_n d_Mo_entry_16 rfl ?_
      refine EV.bipush (v := nI 6) d_Mo_entry_17 (by decide) ?_
      refine EV.icmp_leN (tgt := 25) d_Mo_entry_19 (by decide) rfl rfl (by decide) (by decide) (fun _ => ?_) (fun q => absurd q (by decide))
      refine EV.iload_n d_Mo_entry_25 rfl ?_
      refine EV.iconst (v := nI 3) d_Mo_entry_26 (by decide) ?_
      refine EV.icmp_geN (tgt := 55) d_Mo_entry_27 (by decide) rfl rfl (by decide) (by decide) (fun _ => ?_) (fun q => absurd q (by decide))
      refine EV.iload_n d_Mo_entry_55 rfl ?_
      refine EV.iconst (v := nI 3) d_Mo_entry_56 (by decide) ?_
      refine EV.icmp_neN (tgt := 69) d_Mo_entry_57 (by decide) rfl rfl (by decide) (by decide) (fun q => absurd rfl q) (fun _ => ?_)
      refine EV.aload_n d_Mo_entry_60 rfl ?_
      refine EV.getR fl_Mo_13 d_Mo_entry_61 (by first | assumption | rfl) rfl ?_
      refine EV.iload_n d_Mo_entry_64 rfl ?_
      refine EV.ialdN d_Mo_entry_65 (by first | assumption | rfl) rfl rfl (by omega) (by first | decide | omega) ?_
      refine EV.goto (tgt := 77) d_Mo_entry_66 (by decide) ?_
      refine EV.top v2 ?_
      exact EV.ireturn d_Mo_entry_77 ⟨_, rfl, rfl⟩ ⟨by rw [hop, if_neg (by decide), if_pos rfl], hC, fun _ _ => rfl⟩
    · refine EV.iload_n d_Mo_entry_12 rfl ?_
      refine EV.if_ltN (tgt := 22) d_Mo_entry_13 rfl (by decide) (by decide) ?_
      refine EV.iload_n d_Mo_entry_16 rfl ?_
      refine EV.bipush (v := nI 6) d_Mo_entry_17 (by decide) ?_
      refine EV.icmp_leN (tgt := 25) d_Mo_entry_19 (by decide) rfl rfl (by decide) (by decide) (fun _ => ?_) (fun q => absurd q (by decide))
      refine EV.iload_n d_Mo_entry_25 rfl ?_
      refine EV.iconst (v := nI 3) d_Mo_entry_26 (by decide) ?_
      refine EV.icmp_geN (tgt := 55) d_Mo_entry_27 (by decide) rfl rfl (by decide) (by decide) (fun _ => ?_) (fun q => absurd q (by decide))
      refine EV.iload_n d_Mo_entry_55 rfl ?_
      refine EV.iconst (v := nI 3) d_Mo_entry_56 (by decide) ?_
      refine EV.icmp_neN (tgt := 69) d_Mo_entry_57 (by decide) rfl rfl (by decide) (by decide) (fun _ => ?_) (fun q => absurd q (by decide))
      refine EV.aload_n d_Mo_entry_69 rfl ?_
      refine EV.iload_n d_Mo_entry_70 rfl ?_
      refine EV.iload_n d_Mo_entry_71 rfl ?_
      refine EV.iconst (v := nI 3) d_Mo_entry_72 (by decide) ?_
      refine EV.isub d_Mo_entry_73 ?_
      refine EV.top (y := nI 1) (by decide) ?_
      refine EV.V2 cv_Mo_96 d_Mo_entry_74 (by first | assumption | rfl) (sp_Mo_weight (L := 1) hS hok hC.2.2.1.2 hil (by decide)) ⟨Nat.le_refl _, Nat.le_refl _⟩ rfl rfl (Nat.le_of_ble_eq_true rfl) (fun rv D1 hp => ?_)
      obtain ⟨rfl, hD⟩ := hp
      obtain rfl := hD.symm
      exact EV.ireturn d_Mo_entry_77 ⟨_, rfl, rfl⟩ ⟨by rw [hop, if_neg (by decide), if_neg (by decide), if_pos rfl]; rfl, hC, fun _ _ => rfl⟩
    · refine EV.iload_n d_Mo_entry_12 rfl ?_
      refine EV.if_ltN (tgt := 22) d_Mo_entry_13 rfl (by decide) (by decide) ?_
      refine EV.iload_n d_Mo_entry_16 rfl ?_
      refine EV.bipush (v := nI 6) d_Mo_entry_17 (by decide) ?_
      refine EV.icmp_leN (tgt := 25) d_Mo_entry_19 (by decide) rfl rfl (by decide) (by decide) (fun _ => ?_) (fun q => absurd q (by decide))
      refine EV.iload_n d_Mo_entry_25 rfl ?_
      refine EV.iconst (v := nI 3) d_Mo_entry_26 (by decide) ?_
      refine EV.icmp_geN (tgt := 55) d_Mo_entry_27 (by decide) rfl rfl (by decide) (by decide) (fun _ => ?_) (fun q => absurd q (by decide))
      refine EV.iload_n d_Mo_entry_55 rfl ?_
      refine EV.iconst (v := nI 3) d_Mo_entry_56 (by decide) ?_
      refine EV.icmp_neN (tgt := 69) d_Mo_entry_57 (by decide) rfl rfl (by decide) (by decide) (fun _ => ?_) (fun q => absurd q (by decide))
      refine EV.aload_n d_Mo_entry_69 rfl ?_
      refine EV.iload_n d_Mo_entry_70 rfl ?_
      refine EV.iload_n d_Mo_entry_71 rfl ?_
      refine EV.iconst (v := nI 3) d_Mo_entry_72 (by decide) ?_
      refine EV.isub d_Mo_entry_73 ?_
      refine EV.top (y := nI 2) (by decide) ?_
      refine EV.V2 cv_Mo_96 d_Mo_entry_74 (by first | assumption | rfl) (sp_Mo_weight (L := 2) hS hok hC.2.2.1.2 hil (by decide)) ⟨Nat.le_refl _, Nat.le_refl _⟩ rfl rfl (Nat.le_of_ble_eq_true rfl) (fun rv D1 hp => ?_)
      obtain ⟨rfl, hD⟩ := hp
      obtain rfl := hD.symm
      exact EV.ireturn d_Mo_entry_77 ⟨_, rfl, rfl⟩ ⟨by rw [hop, if_neg (by decide), if_neg (by decide), if_neg (by decide), if_pos rfl]; rfl, hC, fun _ _ => rfl⟩
    · refine EV.iload_n d_Mo_entry_12 rfl ?_
      refine EV.if_ltN (tgt := 22) d_Mo_entry_13 rfl (by decide) (by decide) ?_
      refine EV.iload_n d_Mo_entry_16 rfl ?_
      refine EV.bipush (v := nI 6) d_Mo_entry_17 (by decide) ?_
      refine EV.icmp_leN (tgt := 25) d_Mo_entry_19 (by decide) rfl rfl (by decide) (by decide) (fun _ => ?_) (fun q => absurd q (by decide))
      refine EV.iload_n d_Mo_entry_25 rfl ?_
      refine EV.iconst (v := nI 3) d_Mo_entry_26 (by decide) ?_
      refine EV.icmp_geN (tgt := 55) d_Mo_entry_27 (by decide) rfl rfl (by decide) (by decide) (fun _ => ?_) (fun q => absurd q (by decide))
      refine EV.iload_n d_Mo_entry_55 rfl ?_
      refine EV.iconst (v := nI 3) d_Mo_entry_56 (by decide) ?_
      refine EV.icmp_neN (tgt := 69) d_Mo_entry_57 (by decide) rfl rfl (by decide) (by decide) (fun _ => ?_) (fun q => absurd q (by decide))
      refine EV.aload_n d_Mo_entry_69 rfl ?_
      refine EV.iload_n d_Mo_entry_70 rfl ?_
      refine EV.iload_n d_Mo_entry_71 rfl ?_
      refine EV.iconst (v := nI 3) d_Mo_entry_72 (by decide) ?_
      refine EV.isub d_Mo_entry_73 ?_
      refine EV.top (y := nI 3) (by decide) ?_
      refine EV.V2 cv_Mo_96 d_Mo_entry_74 (by first | assumption | rfl) (sp_Mo_weight (L := 3) hS hok hC.2.2.1.2 hil (by decide)) ⟨Nat.le_refl _, Nat.le_refl _⟩ rfl rfl (Nat.le_of_ble_eq_true rfl) (fun rv D1 hp => ?_)
      obtain ⟨rfl, hD⟩ := hp
      obtain rfl := hD.symm
      exact EV.ireturn d_Mo_entry_77 ⟨_, rfl, rfl⟩ ⟨by rw [hop, if_neg (by decide), if_neg (by decide), if_neg (by decide), if_neg (by decide), if_pos rfl]; rfl, hC, fun _ _ => rfl⟩
set_option maxHeartbeats 4000000 in
set_option maxRecDepth 100000 in
theorem rf_ent {G : mx_G} {d : Nat} {S : List mx_Sh} {D : mx_Mem} {σ : sg} (hS : SM S) (hC : MI D σ) (hI : SI σ) {x y : Int32} : EV G (d + 1) m_Mo_entry 0 (mx_lc0 m_Mo_entry [.ref 80, .int x, .int y]) [] S D S (PM D σ (op_ent σ x y)) := by
  obtain ⟨hm0, hm1, hm2, hm3, hm4, hm5, hm6, hm7, hm8, hm9, hm10, hm11, hm12⟩ := id hS
  show EV _ _ _ _ [some (.ref 80), some (.int x), some (.int y), none] [] _ _ _ _
  refine EV.iload_n d_Mo_entry_0 rfl ?_
  refine EV.if_lt (tgt := 22) d_Mo_entry_1 (by decide) (fun h1 => ?_) (fun h1 => ?_)
  · refine EV.bipush (v := (-2)) d_Mo_entry_22 (by decide) ?_
    exact EV.ireturn d_Mo_entry_24 ⟨_, rfl, rfl⟩ ⟨by unfold op_ent; rw [if_pos (by first | exact Or.inl h1 | exact Or.inr h9)], hC, fun _ _ => rfl⟩
  · refine EV.iload_n d_Mo_entry_4 rfl ?_
    refine EV.aload_n d_Mo_entry_5 rfl ?_
    refine EV.getI fl_Mo_50 d_Mo_entry_6 (by first | assumption | rfl) rfl ?_
    refine EV.top hC.2.2.1.1 ?_
    refine EV.icmp_ge (tgt := 22) d_Mo_entry_9 (by decide) (fun h9 => ?_) (fun h9 => ?_)
    · refine EV.bipush (v := (-2)) d_Mo_entry_22 (by decide) ?_
      exact EV.ireturn d_Mo_entry_24 ⟨_, rfl, rfl⟩ ⟨by unfold op_ent; rw [if_pos (by first | exact Or.inl h1 | exact Or.inr h9)], hC, fun _ _ => rfl⟩
    · obtain ⟨i, hi, rfl⟩ : ∃ i, i < σ.2.1.length ∧ x = nI i := by
        rcases pk_ix x (n := σ.2.1.length) (by have := hI.2.2.1.2.1; omega) with h | h | ⟨i, hi, rfl⟩
        · exact absurd h h1
        · exact absurd h h9
        · exact ⟨i, hi, rfl⟩
      exact lp_Mo_entry hS hC hI (List.getElem?_eq_getElem hi)
