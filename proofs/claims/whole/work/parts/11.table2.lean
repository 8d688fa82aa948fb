theorem nI_m1 {i : Nat} (h : i < 2 ^ 31) : ¬ nI i = -1 := fun q => by
  have h1 := nI_pos h
  rw [q] at h1
  exact h1 (by decide)
def MvP (t : Nat) (D0 : mx_Mem) (ok : ps_T → Int32) (res : Int32 ⊕ ps_T) : Option Value → mx_Mem → Prop := fun rv D' => (∀ k, ¬ k = t → ¬ k = t + 1 → ¬ k = t + 2 → D' k = D0 k) ∧ match res with
  | .inl c => rv = some (.int c)
  | .inr tb' => rv = some (.int (ok tb')) ∧ D' t 5 = nI tb'.length ∧ TBf 256 (D' (t + 1)) (D' (t + 2)) tb'
set_option maxHeartbeats 4000000 in
set_option maxRecDepth 100000 in
theorem lp_Ta_move27 {G : mx_G} {d : Nat} {S : List mx_Sh} {D0 : mx_Mem} {t y : Nat} {tb1 : ps_T} {s a : List Nat} {v4 : Option Value} (hT : ShT S t) (hc : D0 t 5 = nI tb1.length) (hB : TBf 256 (D0 (t + 1)) (D0 (t + 2)) tb1) (hok : ps_ok tb1) (hs : ps_so s) (ha : ps_so a) (hy : 1 ≤ y ∧ y ≤ 4) (hha : ps_has tb1 a) : EV G (d + 2) m_Ta_move 27 [some (.ref t), some (.int (nI (ps_enc 256 s))), some (.int (nI (ps_enc 256 a))), some (.int (nI y)), v4] [] S D0 S (MvP t D0 (fun _ => nI 0) (ps_mv2 tb1 s a y)) := by
  obtain ⟨hs0, hs1, hs2, hs3, hs4, hs5⟩ := id hT
  have hle := hok.2.1
  have hso : ∀ e ∈ tb1, ps_so e.1 := fun e he => (hok.1 e he).1
  obtain ⟨j, hj⟩ := ps_has_idx hha
  have hjl := ps_idx_lt hj
  refine EV.aload_n d_Ta_move_27 rfl ?_
  refine EV.getI fl_Ta_34 d_Ta_move_28 (by first | assumption | rfl) rfl ?_
  refine EV.bipush (v := nI 30) d_Ta_move_31 (by decide) ?_
  refine EV.icmp_ltN (tgt := 39) d_Ta_move_33 (by decide) hc rfl (by omega) (by omega) (fun h33 => ?_) (fun h33 => ?_)
  · refine EV.aload_n d_Ta_move_39 rfl ?_
    refine EV.iload_n d_Ta_move_40 rfl ?_
    refine EV.iload_n d_Ta_move_41 rfl ?_
    refine EV.aload_n d_Ta_move_42 rfl ?_
    refine EV.iload_n d_Ta_move_43 rfl ?_
    refine EV.V1 cv_Ta_55 d_Ta_move_44 (by first | assumption | rfl) (sp_Ta_find hT hc hle) ⟨Nat.le_refl _, Nat.le_refl _⟩ rfl rfl (Nat.le_of_ble_eq_true rfl) (fun rv D1 hp => ?_)
    obtain ⟨hD, r, rfl, hF⟩ := hp
    obtain rfl := hD.symm
    have hr : r = nI j := by
      rcases Fnd_idx (Or.inr rfl) hso hB ha hF with ⟨i, h1, -, h2⟩ | ⟨h1, -⟩
      · rw [hj] at h1; cases h1; exact h2
      · rw [hj] at h1; cases h1
    subst hr
    refine EV.V3 cv_Ta_68 d_Ta_move_47 (by first | assumption | rfl) (sp_Ta_putIn hT hc h33 hjl) ⟨Nat.le_refl _, Nat.le_refl _⟩ rfl rfl (Nat.le_of_ble_eq_true rfl) (fun rv D1 hp => ?_)
    obtain ⟨rfl, p, hpl, q1, q2, q3, q4⟩ := hp
    refine EV.iconst (v := nI 0) d_Ta_move_50 (by decide) ?_
    have hpe := Plc_pl hok hB (by omega) hpl
    have hple := hpl.2.1
    have hlen : (tb1.insertIdx p (s, y)).length = tb1.length + 1 := List.length_insertIdx_of_le_length hple _
    exact EV.ireturn d_Ta_move_51 ⟨_, rfl, rfl⟩ ⟨q4, by
      unfold ps_mv2
      rw [if_neg (by omega), hj]
      refine ⟨rfl, ?_, ?_⟩
      · rw [q3, ← hpe, hlen]; simp [upd]
      · rw [q1, q2, ← hpe]; exact TBf_in hB hple⟩
  · refine EV.bipush (v := (-102)) d_Ta_move_36 (by decide) ?_
    exact EV.ireturn d_Ta_move_38 ⟨_, rfl, rfl⟩ ⟨fun _ _ _ _ => rfl, by unfold ps_mv2; rw [if_pos (by omega)]⟩
set_option maxHeartbeats 4000000 in
set_option maxRecDepth 100000 in
theorem sp_Ta_move {G : mx_G} {d : Nat} {S : List mx_Sh} {D0 : mx_Mem} {t y : Nat} {tb : ps_T} {s a : List Nat} (hT : ShT S t) (hc : D0 t 5 = nI tb.length) (hB : TBf 256 (D0 (t + 1)) (D0 (t + 2)) tb) (hok : ps_ok tb) (hs : ps_so s) (ha : ps_so a) (hy : 1 ≤ y ∧ y ≤ 4) (hha : ps_has tb a) : EV G (d + 2) m_Ta_move 0 (mx_lc0 m_Ta_move [.ref t, .int (nI (ps_enc 256 s)), .int (nI (ps_enc 256 a)), .int (nI y)]) [] S D0 S (MvP t D0 (fun _ => nI 0) (ps_move tb s a y)) := by
  obtain ⟨hs0, hs1, hs2, hs3, hs4, hs5⟩ := id hT
  have hle := hok.2.1
  have hso : ∀ e ∈ tb, ps_so e.1 := fun e he => (hok.1 e he).1
  have hrm := ps_rm_ok (s := s) hok
  show EV _ _ _ _ [some (.ref t), some (.int (nI (ps_enc 256 s))), some (.int (nI (ps_enc 256 a))), some (.int (nI y)), none] [] _ _ _ _
  refine EV.iload_n d_Ta_move_0 rfl ?_
  refine EV.iload_n d_Ta_move_1 rfl ?_
  refine EV.icmp_ne (tgt := 8) d_Ta_move_2 (by decide) (fun h2 => ?_) (fun h2 => ?_)
  · have hne : ¬ s = a := fun q => h2 (by rw [q])
    have hmv : ps_move tb s a y = ps_mv2 (ps_rm tb s) s a y := by unfold ps_move; rw [if_neg hne]
    rw [hmv]
    have hha2 := hrm.2.2 a (fun q => hne q.symm) hha
    refine EV.aload_n d_Ta_move_8 rfl ?_
    refine EV.iload_n d_Ta_move_9 rfl ?_
    refine EV.V1 cv_Ta_55 d_Ta_move_10 (by first | assumption | rfl) (sp_Ta_find hT hc hle) ⟨Nat.le_refl _, Nat.le_refl _⟩ rfl rfl (Nat.le_of_ble_eq_true rfl) (fun rv D1 hp => ?_)
    obtain ⟨hD, r, rfl, hF⟩ := hp
    obtain rfl := hD.symm
    rcases Fnd_idx (Or.inr rfl) hso hB hs hF with ⟨i, hi, hil, rfl⟩ | ⟨hi, rfl⟩
    · refine EV.istore d_Ta_move_13 (by decide) ?_
      refine EV.iload d_Ta_move_15 rfl ?_
      refine EV.iconst (v := (-1)) d_Ta_move_17 (by decide) ?_
      refine EV.icmp_eq (tgt := 27) d_Ta_move_18 (by decide) (fun h18 => absurd h18 (nI_m1 (by omega))) (fun h18 => ?_)
      refine EV.aload_n d_Ta_move_21 rfl ?_
      refine EV.iload d_Ta_move_22 rfl ?_
      refine EV.V1 cv_Ta_64 d_Ta_move_24 (by first | assumption | rfl) (sp_Ta_takeOut hT hc hle hil) ⟨Nat.le_refl _, Nat.le_refl _⟩ rfl rfl (Nat.le_of_ble_eq_true rfl) (fun rv D1 hp => ?_)
      obtain ⟨rfl, q1, q2, q3, q4⟩ := hp
      have hrme : ps_rm tb s = ps_out tb i := by unfold ps_rm; rw [hi]
      refine EV.post (fun rv D' h => ⟨fun k k1 k2 k3 => (h.1 k k1 k2 k3).trans (q4 k k1 k2 k3), h.2⟩) (lp_Ta_move27 (tb1 := ps_rm tb s) hT ?_ ?_ hrm.1 hs ha hy hha2)
      · rw [q3, hrme, ps_out_len hil]; simp [upd]
      · rw [q1, q2, hrme]; exact TBf_out hok hB hil
    · refine EV.istore d_Ta_move_13 (by decide) ?_
      refine EV.iload d_Ta_move_15 rfl ?_
      refine EV.iconst (v := (-1)) d_Ta_move_17 (by decide) ?_
      refine EV.icmp_eq (tgt := 27) d_Ta_move_18 (by decide) (fun h18 => ?_) (fun h18 => absurd rfl h18)
      have hrme : ps_rm tb s = tb := by unfold ps_rm; rw [hi]
      rw [hrme] at hha2 ⊢
      exact lp_Ta_move27 hT hc hB hok hs ha hy hha2
  · have hne : s = a := (ps_nI_eq (Or.inr rfl) hs ha).mp h2
    refine EV.bipush (v := (-101)) d_Ta_move_5 (by decide) ?_
    exact EV.ireturn d_Ta_move_7 ⟨_, rfl, rfl⟩ ⟨fun _ _ _ _ => rfl, by unfold ps_move; rw [if_pos hne]⟩
def ShR (S : List mx_Sh) (r : Nat) : Prop := S[r]? = some (.inl (4, [some (some (r + 1)), some (some (r + 2)), none, none, none])) ∧ S[r + 1]? = some (.inr (.inl (0, 24))) ∧ S[r + 2]? = some (.inr (.inl (0, 24)))
/-- a rule's strings: the first one is the anchor -/
def RLo (rl : ps_T) : Prop := 1 ≤ rl.length ∧ rl.length ≤ 24 ∧ (∀ e ∈ rl, ps_so e.1) ∧ ∀ i e, 1 ≤ i → rl[i]? = some e → 1 ≤ e.2 ∧ e.2 ≤ 4
def ps_fol (tb rl : ps_T) : Int32 ⊕ ps_T := match rl with
  | [] => .inl 0
  | e :: r => match ps_idx tb e.1 with
    | none => .inl (-100)
    | some _ => ps_foll tb e.1 r
set_option maxHeartbeats 4000000 in
set_option maxRecDepth 100000 in
theorem lp_Ta_follow {G : mx_G} {d : Nat} {S : List mx_Sh} {D0 : mx_Mem} {t r : Nat} {rl : ps_T} {R : Int32 ⊕ ps_T} (hT : ShT S t) (hR : ShR S r) (htr : r + 2 < t ∨ t + 5 < r) (hrc : D0 r 2 = nI rl.length) (hrB : TBf 256 (D0 (r + 1)) (D0 (r + 2)) rl) (hrl : RLo rl) : ∀ (n i : Nat) (D : mx_Mem) (tb : ps_T) (a : List Nat × Nat) (v3 : Option Value), 1 ≤ i → i ≤ rl.length → rl.length - i = n → rl[i - 1]? = some a → D t 5 = nI tb.length → TBf 256 (D (t + 1)) (D (t + 2)) tb → ps_ok tb → ps_has tb a.1 → (∀ k, ¬ k = t → ¬ k = t + 1 → ¬ k = t + 2 → D k = D0 k) → ps_foll tb a.1 (rl.drop i) = R → EV G (d + 3) m_Ta_follow 19 [some (.ref t), some (.ref r), some (.int (nI i)), v3] [] S D S (MvP t D0 (fun tb => nI tb.length) R) := by
  obtain ⟨hs0, hs1, hs2, hs3, hs4, hs5⟩ := id hT
  obtain ⟨hr0, hr1, hr2⟩ := id hR
  intro n
  induction n with
  | zero =>
    intro i D tb a v3 h1 h2 h3 ha hc hB hok hha ho hfo
    have hrc2 : D r 2 = nI rl.length := by rw [ho r (by omega) (by omega) (by omega)]; exact hrc
    have hl24 := hrl.2.1
    refine EV.iload_n d_Ta_follow_19 rfl ?_
    refine EV.aload_n d_Ta_follow_20 rfl ?_
    refine EV.getI fl_Ta_58 d_Ta_follow_21 (by first | assumption | rfl) rfl ?_
    refine EV.icmp_geN (tgt := 64) d_Ta_follow_24 (by decide) rfl hrc2 (by omega) (by omega) (fun h24 => ?_) (fun h24 => ?_)
    · refine EV.aload_n d_Ta_follow_64 rfl ?_
      refine EV.getI fl_Ta_34 d_Ta_follow_65 (by first | assumption | rfl) rfl ?_
      refine EV.top hc ?_
      exact EV.ireturn d_Ta_follow_68 ⟨_, rfl, rfl⟩ ⟨ho, by rw [← hfo, List.drop_of_length_le (by omega)]; exact ⟨rfl, hc, hB⟩⟩
    · exfalso
      omega
  | succ n ih =>
    intro i D tb a v3 h1 h2 h3 ha hc hB hok hha ho hfo
    have hrc2 : D r 2 = nI rl.length := by rw [ho r (by omega) (by omega) (by omega)]; exact hrc
    have hl24 := hrl.2.1
    obtain ⟨e, hei⟩ : ∃ e, rl[i]? = some e := ⟨rl[i]'(by omega), List.getElem?_eq_getElem (by omega)⟩
    have hdr : rl.drop i = e :: rl.drop (i + 1) := by rw [List.drop_eq_getElem_cons (by omega), (List.getElem?_eq_some_iff.mp hei).2]
    have hB2 : TBf 256 (D (r + 1)) (D (r + 2)) rl := by rw [ho (r + 1) (by omega) (by omega) (by omega), ho (r + 2) (by omega) (by omega) (by omega)]; exact hrB
    refine EV.iload_n d_Ta_follow_19 rfl ?_
    refine EV.aload_n d_Ta_follow_20 rfl ?_
    refine EV.getI fl_Ta_58 d_Ta_follow_21 (by first | assumption | rfl) rfl ?_
    refine EV.icmp_geN (tgt := 64) d_Ta_follow_24 (by decide) rfl hrc2 (by omega) (by omega) (fun h24 => ?_) (fun h24 => ?_)
    · exfalso
      omega
    · refine EV.aload_n d_Ta_follow_27 rfl ?_
      refine EV.aload_n d_Ta_follow_28 rfl ?_
      refine EV.getR fl_Ta_52 d_Ta_follow_29 (by first | assumption | rfl) rfl ?_
      refine EV.iload_n d_Ta_follow_32 rfl ?_
      refine EV.ialdN d_Ta_follow_33 (by first | assumption | rfl) rfl rfl (by omega) (by first | decide | omega) ?_
      refine EV.top (hB2 i e hei).1 ?_
      refine EV.aload_n d_Ta_follow_34 rfl ?_
      refine EV.getR fl_Ta_52 d_Ta_follow_35 (by first | assumption | rfl) rfl ?_
      refine EV.iload_n d_Ta_follow_38 rfl ?_
      refine EV.iconst (v := nI 1) d_Ta_follow_39 (by decide) ?_
      refine EV.isub d_Ta_follow_40 ?_
      refine EV.ialdN d_Ta_follow_41 (by first | assumption | rfl) rfl (show _ = nI (i - 1) from pk_sub (by omega)) (by omega) (by first | decide | omega) ?_
      refine EV.top (hB2 (i - 1) a ha).1 ?_
      refine EV.aload_n d_Ta_follow_42 rfl ?_
      refine EV.getR fl_Ta_59 d_Ta_follow_43 (by first | assumption | rfl) rfl ?_
      refine EV.iload_n d_Ta_follow_46 rfl ?_
      refine EV.ialdN d_Ta_follow_47 (by first | assumption | rfl) rfl rfl (by omega) (by first | decide | omega) ?_
      refine EV.top (hB2 i e hei).2 ?_
      refine EV.V3 cv_Ta_60 d_Ta_follow_48 (by first | assumption | rfl) (sp_Ta_move hT hc hB hok (hrl.2.2.1 _ (List.mem_of_getElem? hei)) (hrl.2.2.1 _ (List.mem_of_getElem? ha)) (hrl.2.2.2 i e h1 hei) hha) ⟨Nat.le_refl _, Nat.le_refl _⟩ rfl rfl (Nat.le_of_ble_eq_true rfl) (fun rv D1 hp => ?_)
      obtain ⟨hD1, hm⟩ := hp
      cases hmv : ps_move tb e.1 a.1 e.2 with
      | inl c =>
        rw [hmv] at hm
        subst hm
        refine EV.istore_n d_Ta_follow_51 (by decide) ?_
        refine EV.iload_n d_Ta_follow_52 rfl ?_
        refine EV.if_eq (tgt := 58) d_Ta_follow_53 (by decide) (fun h53 => ?_) (fun h53 => ?_)
        · exfalso
          rcases ps_move_neg hok hha hmv with q | q <;> rw [q] at h53 <;> exact absurd h53 (by decide)
        · refine EV.iload_n d_Ta_follow_56 rfl ?_
          refine EV.ireturn d_Ta_follow_57 ⟨_, rfl, rfl⟩ ⟨fun k k1 k2 k3 => (hD1 k k1 k2 k3).trans (ho k k1 k2 k3), ?_⟩
          rw [← hfo, hdr]
          simp only [ps_foll]
          rw [hmv]
      | inr tb' =>
        rw [hmv] at hm
        obtain ⟨rfl, hc1, hB1⟩ := hm
        refine EV.istore_n d_Ta_follow_51 (by decide) ?_
        refine EV.iload_n d_Ta_follow_52 rfl ?_
        refine EV.if_eq (tgt := 58) d_Ta_follow_53 (by decide) (fun h53 => ?_) (fun h53 => absurd nI_0 h53)
        refine EV.iincN d_Ta_follow_58 rfl (by decide) ?_
        refine EV.goto (tgt := 19) d_Ta_follow_61 (by decide) ?_
        obtain ⟨k1, k2, k3⟩ := ps_move_ok hok (hrl.2.2.1 _ (List.mem_of_getElem? hei)) (hrl.2.2.2 i e h1 hei) hmv
        refine ih (i + 1) D1 tb' e _ (by omega) (by omega) (by omega) (by rw [Nat.add_sub_cancel]; exact hei) hc1 hB1 k1 k2 (fun k q1 q2 q3 => (hD1 k q1 q2 q3).trans (ho k q1 q2 q3)) ?_
        rw [← hfo, hdr]
        simp only [ps_foll]
        rw [hmv]
set_option maxHeartbeats 4000000 in
set_option maxRecDepth 100000 in
theorem sp_Ta_follow {G : mx_G} {d : Nat} {S : List mx_Sh} {D0 : mx_Mem} {t r : Nat} {tb rl : ps_T} (hT : ShT S t) (hR : ShR S r) (htr : r + 2 < t ∨ t + 5 < r) (hc : D0 t 5 = nI tb.length) (hB : TBf 256 (D0 (t + 1)) (D0 (t + 2)) tb) (hok : ps_ok tb) (hrc : D0 r 2 = nI rl.length) (hrB : TBf 256 (D0 (r + 1)) (D0 (r + 2)) rl) (hrl : RLo rl) : EV G (d + 3) m_Ta_follow 0 (mx_lc0 m_Ta_follow [.ref t, .ref r]) [] S D0 S (MvP t D0 (fun tb => nI tb.length) (ps_fol tb rl)) := by
  obtain ⟨hs0, hs1, hs2, hs3, hs4, hs5⟩ := id hT
  obtain ⟨hr0, hr1, hr2⟩ := id hR
  have hso : ∀ e ∈ tb, ps_so e.1 := fun e he => (hok.1 e he).1
  have hl30 := hok.2.1
  have hl24 := hrl.2.1
  have hl1 := hrl.1
  obtain ⟨e, rl2, hre⟩ : ∃ e rl2, rl = e :: rl2 := by
    cases rl with
    | nil => simp at hl1
    | cons e l => exact ⟨e, l, rfl⟩
  have he : rl[0]? = some e := by rw [hre]; rfl
  show EV _ _ _ _ [some (.ref t), some (.ref r), none, none] [] _ _ _ _
  refine EV.aload_n d_Ta_follow_0 rfl ?_
  refine EV.aload_n d_Ta_follow_1 rfl ?_
  refine EV.getR fl_Ta_52 d_Ta_follow_2 (by first | assumption | rfl) rfl ?_
  refine EV.iconst (v := nI 0) d_Ta_follow_5 (by decide) ?_
  refine EV.ialdN d_Ta_follow_6 (by first | assumption | rfl) rfl rfl (by omega) (by first | decide | omega) ?_
  refine EV.top (hrB 0 e he).1 ?_
  refine EV.V1 cv_Ta_55 d_Ta_follow_7 (by first | assumption | rfl) (sp_Ta_find hT hc hok.2.1) ⟨Nat.le_refl _, Nat.le_refl _⟩ rfl rfl (Nat.le_of_ble_eq_true rfl) (fun rv D1 hp => ?_)
  obtain ⟨hD, q, rfl, hF⟩ := hp
  obtain rfl := hD.symm
  rcases Fnd_idx (Or.inr rfl) hso hB (hrl.2.2.1 _ (List.mem_of_getElem? he)) hF with ⟨i, hi, hil, rfl⟩ | ⟨hi, rfl⟩
  · refine EV.iconst (v := (-1)) d_Ta_follow_10 (by decide) ?_
    refine EV.icmp_ne (tgt := 17) d_Ta_follow_11 (by decide) (fun h11 => ?_) (fun h11 => absurd h11 (nI_m1 (by omega)))
    refine EV.iconst (v := nI 1) d_Ta_follow_17 (by decide) ?_
    refine EV.istore_n d_Ta_follow_18 (by decide) ?_
    refine lp_Ta_follow hT hR htr hrc hrB hrl (rl.length - 1) 1 D0 tb e none (by omega) (by omega) rfl he hc hB hok ⟨_, List.mem_of_getElem? (ps_idx_some.mp hi).1.choose_spec.1, (ps_idx_some.mp hi).1.choose_spec.2⟩ (fun _ _ _ _ => rfl) ?_
    rw [hre]
    simp only [ps_fol, List.drop_succ_cons, List.drop_zero]
    rw [hi]
  · refine EV.iconst (v := (-1)) d_Ta_follow_10 (by decide) ?_
    refine EV.icmp_ne (tgt := 17) d_Ta_follow_11 (by decide) (fun h11 => absurd rfl h11) (fun h11 => ?_)
    refine EV.bipush (v := (-100)) d_Ta_follow_14 (by decide) ?_
    refine EV.ireturn d_Ta_follow_16 ⟨_, rfl, rfl⟩ ⟨fun _ _ _ _ => rfl, ?_⟩
    rw [hre]
    simp only [ps_fol]
    rw [hi]
