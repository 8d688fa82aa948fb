theorem ps_letter_ok {c : Nat} (h : ps_letter c = true) : 0 < c ∧ c < 128 := by
  unfold ps_letter at h
  simp at h
  omega
theorem ps_mark_ok {c : Nat} (h : ps_mark c = true) : 0 < c ∧ c < 128 := by
  unfold ps_mark at h
  simp at h
  omega
theorem ru_st_wf {q q' : ru_Q} {n c : Nat} (h : ru_wf q n) (hs : ru_st q c = some q') : ru_wf q' (n + 1) := by
  obtain ⟨w1, w2, w3, w4, w5, w6, w7, w8⟩ := h
  unfold ru_st at hs
  split at hs
  · rename_i h0
    split at hs
    · cases hs
      exact ⟨by simp, by simp, by show q.2.2.length ≤ n + 1; omega, w4, fun h => absurd h (by simp), fun h => absurd h (by simp), fun _ => ⟨fun _ => w6 h0, fun _ => rfl⟩, w8⟩
    · cases hs
  · split at hs
    · rename_i h0 h1
      split at hs
      · rename_i h2
        cases hs
        have := w7 h1
        exact ⟨by simp, by show q.2.1 + 1 ≤ 4; omega, by show q.2.2.length ≤ n + 1; omega, w4, fun h => absurd h (by simp), fun h => absurd h (by simp), fun _ => ⟨fun h => absurd h (by show ¬ q.2.1 + 1 = 0; omega), fun h => by exfalso; have : q.2.2.length = 0 := h; omega⟩, w8⟩
      · split at hs
        · rename_i h3
          cases hs
          have h7 := w7 h1
          refine ⟨by simp, w2, by show (q.2.2 ++ [([c], q.2.1)]).length ≤ n + 1; rw [List.length_append]; simp; omega, fun e he => ?_, fun _ => by show 1 ≤ (q.2.2 ++ [([c], q.2.1)]).length; rw [List.length_append]; simp, fun h => absurd h (by simp), fun h => absurd h (by simp), fun i e hi he => ?_⟩
          · rcases List.mem_append.mp he with he | he
            · exact w4 e he
            · simp at he
              subst he
              exact ⟨⟨by simp, by simp, fun x hx => by simp at hx; subst hx; exact ps_letter_ok h3⟩, w2⟩
          · have he' : (q.2.2 ++ [([c], q.2.1)])[i]? = some e := he
            by_cases hl : i < q.2.2.length
            · rw [List.getElem?_append_left hl] at he'
              exact w8 i e hi he'
            · have hl2 : i < (q.2.2 ++ [([c], q.2.1)]).length := (List.getElem?_eq_some_iff.mp he').1
              rw [List.length_append, List.length_singleton] at hl2
              have : i = q.2.2.length := by omega
              subst this
              simp at he'
              subst he'
              show 1 ≤ q.2.1
              omega
        · cases hs
    · rename_i h0 h1
      have h2 : q.1 = 2 := by omega
      split at hs
      · cases hs
        have := w5 h2
        exact ⟨by simp, by simp, by show q.2.2.length ≤ n + 1; omega, w4, fun h => absurd h (by simp), fun h => absurd h (by simp), fun _ => ⟨fun h => absurd h (by simp), fun h => by exfalso; have : q.2.2.length = 0 := h; omega⟩, w8⟩
      · split at hs
        · cases hs
          have := w5 h2
          exact ⟨by simp, by simp, by show q.2.2.length ≤ n + 1; omega, w4, fun h => absurd h (by simp), fun h => absurd h (by simp), fun _ => ⟨fun h => absurd h (by simp), fun h => by exfalso; have : q.2.2.length = 0 := h; omega⟩, w8⟩
        · unfold ru_go at hs
          split at hs
          · cases hs
          · rename_i e he
            split at hs
            · rename_i hg
              cases hs
              have hl1 := w5 h2
              have hme := w4 e (List.mem_of_getElem? he)
              have hcc : 0 < c ∧ c < 128 := by
                have := hg.1
                rw [Bool.or_eq_true] at this
                exact this.elim ps_letter_ok ps_mark_ok
              refine ⟨by simp, w2, by show (q.2.2.set _ _).length ≤ n + 1; rw [List.length_set]; omega, fun x hx => ?_, fun _ => by show 1 ≤ (q.2.2.set _ _).length; rw [List.length_set]; omega, fun h => absurd h (by simp), fun h => absurd h (by simp), fun i x hi hx => ?_⟩
              · rcases List.mem_or_eq_of_mem_set hx with hx | hx
                · exact w4 x hx
                · subst hx
                  refine ⟨⟨by simp, by simp; omega, fun y hy => ?_⟩, hme.2⟩
                  rcases List.mem_append.mp hy with hy | hy
                  · exact hme.1.2.2 y hy
                  · simp at hy; subst hy; exact hcc
              · have hx' : (q.2.2.set (q.2.2.length - 1) (e.1 ++ [c], e.2))[i]? = some x := hx
                by_cases hi2 : i = q.2.2.length - 1
                · subst hi2
                  rw [List.getElem?_set_self (by omega)] at hx'
                  cases hx'
                  exact w8 _ e hi he
                · rw [List.getElem?_set_ne (Ne.symm hi2)] at hx'
                  exact w8 i x hi hx'
            · cases hs
/-- the whole line: the place of the first character that can't be taken, or the state behind it -/
def ru_rd (q : ru_Q) (i : Nat) : List Nat → Nat ⊕ ru_Q
  | [] => .inr q
  | c :: r => match ru_st q c with
    | none => .inl i
    | some q' => ru_rd q' (i + 1) r
def ru_ans (n : Nat) : Nat ⊕ ru_Q → Nat ⊕ ps_T
  | .inl i => .inl i
  | .inr q => if q.1 = 2 ∧ 1 < q.2.2.length then .inr q.2.2 else .inl n
def RdP (D0 : mx_Mem) (r : Nat) (x : Nat ⊕ ps_T) : Option Value → mx_Mem → Prop := fun rv D' => (∀ k, ¬ k = r → ¬ k = r + 1 → ¬ k = r + 2 → D' k = D0 k) ∧ match x with
  | .inl p => rv = some (.int (-1 - nI p))
  | .inr rl => rv = some (.int (nI rl.length)) ∧ D' r 2 = nI rl.length ∧ TBf 256 (D' (r + 1)) (D' (r + 2)) rl ∧ RLo rl
theorem RdP_f {D0 D' : mx_Mem} {r p : Nat} {x : Nat ⊕ ps_T} (h : x = .inl p) (ho : ∀ k, ¬ k = r → ¬ k = r + 1 → ¬ k = r + 2 → D' k = D0 k) : RdP D0 r x (some (.int (-1 - nI p))) D' := by subst h; exact ⟨ho, rfl⟩
theorem RdP_t {D0 D' : mx_Mem} {r : Nat} {rl : ps_T} {x : Nat ⊕ ps_T} (h : x = .inr rl) (ho : ∀ k, ¬ k = r → ¬ k = r + 1 → ¬ k = r + 2 → D' k = D0 k) (hb : D' r 2 = nI rl.length ∧ TBf 256 (D' (r + 1)) (D' (r + 2)) rl ∧ RLo rl) : RdP D0 r x (some (.int (nI rl.length))) D' := by subst h; exact ⟨ho, rfl, hb⟩
set_option maxHeartbeats 4000000 in
set_option maxRecDepth 100000 in
theorem sp_Ru_takes {G : mx_G} {d : Nat} {S : List mx_Sh} {D : mx_Mem} {r c n : Nat} {q : ru_Q} (hR : ShR S r) (hQ : RuS D r q) (hw : ru_wf q n) (hn : n < 24) (hc : 0 < c ∧ c < 128) : EV G (d + 2) m_Ru_takes 0 (mx_lc0 m_Ru_takes [.ref r, .int (nI c)]) [] S D S (fun rv D' => (∀ k, ¬ k = r → ¬ k = r + 1 → ¬ k = r + 2 → D' k = D k) ∧ oR (ru_st q c) (rv = some (.int (nI 0))) (fun q' => rv = some (.int (nI 1)) ∧ RuS D' r q')) := by
  obtain ⟨hr0, hr1, hr2⟩ := id hR
  obtain ⟨w1, w2, w3, w4, w5, w6, w7, w8⟩ := id hw
  show EV _ _ _ _ [some (.ref r), some (.int (nI c))] [] _ _ _ _
  refine EV.aload_n d_Ru_takes_0 rfl ?_
  refine EV.getI fl_Ru_22 d_Ru_takes_1 (by first | assumption | rfl) rfl ?_
  rcases (show q.1 = 0 ∨ q.1 = 1 ∨ q.1 = 2 by omega) with h0 | h0 | h0
  · refine EV.top (y := nI 0) (by rw [hQ.2.1, h0]) ?_
    refine EV.lsw (off := 28) (tgt := 32) d_Ru_takes_4 (by decide) (by decide) (by decide) ?_
    refine EV.iload_n d_Ru_takes_32 rfl ?_
    refine EV.bipush (v := nI 38) d_Ru_takes_33 (by decide) ?_
    refine EV.icmp_neN (tgt := 50) d_Ru_takes_35 (by decide) rfl rfl (by omega) (by omega) (fun h35 => ?_) (fun h35 => ?_)
    · refine EV.iconst (v := nI 0) d_Ru_takes_50 (by decide) ?_
      exact EV.ireturn d_Ru_takes_51 ⟨_, rfl, rfl⟩ (by first | exact ⟨fun k k1 _ _ => o1 k k1, oR_s (q := (1, 0, q.2.2)) (by unfold ru_st; rw [if_pos h0, if_pos h35]) ⟨rfl, by rw [o2]; exact hQ.1, o3, o4, by rw [o1 (r + 1) (by omega), o1 (r + 2) (by omega)]; exact hQ.2.2.2⟩⟩ | exact ⟨fun _ _ _ _ => rfl, oR_n (by unfold ru_st; rw [if_pos h0, if_neg h35]) rfl⟩)
    · refine EV.aload_n d_Ru_takes_38 rfl ?_
      refine EV.iconst (v := nI 0) d_Ru_takes_39 (by decide) ?_
      refine EV.V1 cv_Ru_41 d_Ru_takes_40 (by first | assumption | rfl) (sp_Ru_sign (x := 0) hR) ⟨Nat.le_refl _, Nat.le_refl _⟩ rfl rfl (Nat.le_of_ble_eq_true rfl) (fun rv D1 hp => ?_)
      obtain ⟨rfl, o1, o2, o3, o4⟩ := hp
      refine EV.if_eqN (tgt := 50) d_Ru_takes_43 (by decide) rfl (by decide) (fun h => absurd h (by decide)) (fun _ => ?_)
      refine EV.iconst (v := nI 1) d_Ru_takes_46 (by decide) ?_
      refine EV.goto (tgt := 51) d_Ru_takes_47 (by decide) ?_
      exact EV.ireturn d_Ru_takes_51 ⟨_, rfl, rfl⟩ (by first | exact ⟨fun k k1 _ _ => o1 k k1, oR_s (q := (1, 0, q.2.2)) (by unfold ru_st; rw [if_pos h0, if_pos h35]) ⟨rfl, by rw [o2]; exact hQ.1, o3, o4, by rw [o1 (r + 1) (by omega), o1 (r + 2) (by omega)]; exact hQ.2.2.2⟩⟩ | exact ⟨fun _ _ _ _ => rfl, oR_n (by unfold ru_st; rw [if_pos h0, if_neg h35]) rfl⟩)
  · refine EV.top (y := nI 1) (by rw [hQ.2.1, h0]) ?_
    refine EV.lsw (off := 48) (tgt := 52) d_Ru_takes_4 (by decide) (by decide) (by decide) ?_
    have h1 : ¬ q.1 = 0 := by omega
    have K : ¬ (c = 60 ∧ (q.2.1 = 1 ∨ q.2.1 = 2)) → EV G (d + 2) m_Ru_takes 87 [some (.ref r), some (.int (nI c))] [] S D S (fun rv D' => (∀ k, ¬ k = r → ¬ k = r + 1 → ¬ k = r + 2 → D' k = D k) ∧ oR (ru_st q c) (rv = some (.int (nI 0))) (fun q' => rv = some (.int (nI 1)) ∧ RuS D' r q')) := by
      intro hne
      refine EV.iload_n d_Ru_takes_87 rfl ?_
      refine EV.T1 cs_Ru_45 d_Ru_takes_88 (sp_To_isLetter (by omega)) ⟨Nat.le_refl _, Nat.le_refl _⟩ rfl rfl (Nat.le_of_ble_eq_true rfl) (fun rv D1 hp => ?_)
      obtain ⟨rfl, hD⟩ := hp
      obtain rfl := hD.symm
      refine EV.if_eqB (tgt := 106) d_Ru_takes_91 (by decide) (fun h91 => ?_) (fun h91 => ?_)
      · refine EV.iconst (v := nI 0) d_Ru_takes_106 (by decide) ?_
        exact EV.ireturn d_Ru_takes_107 ⟨_, rfl, rfl⟩ ⟨fun _ _ _ _ => rfl, oR_n (by unfold ru_st; rw [if_neg h1, if_pos h0, if_neg hne, if_neg (by simp [h91])]) rfl⟩
      refine EV.aload_n d_Ru_takes_94 rfl ?_
      refine EV.iload_n d_Ru_takes_95 rfl ?_
      refine EV.V1 cv_Ru_48 d_Ru_takes_96 (by first | assumption | rfl) (sp_Ru_begin hR hQ (by omega) hc.2) ⟨Nat.le_refl _, Nat.le_refl _⟩ rfl rfl (Nat.le_of_ble_eq_true rfl) (fun rv D1 hp => ?_)
      obtain ⟨rfl, o1, o2⟩ := hp
      refine EV.if_eqN (tgt := 106) d_Ru_takes_99 (by decide) rfl (by decide) (fun h => absurd h (by decide)) (fun _ => ?_)
      refine EV.iconst (v := nI 1) d_Ru_takes_102 (by decide) ?_
      refine EV.goto (tgt := 107) d_Ru_takes_103 (by decide) ?_
      exact EV.ireturn d_Ru_takes_107 ⟨_, rfl, rfl⟩ ⟨o1, oR_s (q := (2, q.2.1, q.2.2 ++ [([c], q.2.1)])) (by unfold ru_st; rw [if_neg h1, if_pos h0, if_neg hne, if_pos h91]) ⟨rfl, o2⟩⟩
    refine EV.iload_n d_Ru_takes_52 rfl ?_
    refine EV.bipush (v := nI 60) d_Ru_takes_53 (by decide) ?_
    refine EV.icmp_neN (tgt := 87) d_Ru_takes_55 (by decide) rfl rfl (by omega) (by omega) (fun h55 => ?_) (fun h55 => ?_)
    · exact K (by omega)
    · refine EV.aload_n d_Ru_takes_58 rfl ?_
      refine EV.getI fl_Ru_25 d_Ru_takes_59 (by first | assumption | rfl) rfl ?_
      refine EV.iconst (v := nI 1) d_Ru_takes_62 (by decide) ?_
      refine EV.icmp_eqN (tgt := 74) d_Ru_takes_63 (by decide) hQ.2.2.1 rfl (by omega) (by omega) (fun h63 => ?_) (fun h63 => ?_)
      · refine EV.aload_n d_Ru_takes_74 rfl ?_
        refine EV.aload_n d_Ru_takes_75 rfl ?_
        refine EV.getI fl_Ru_25 d_Ru_takes_76 (by first | assumption | rfl) rfl ?_
        refine EV.iconst (v := nI 1) d_Ru_takes_79 (by decide) ?_
        refine EV.iadd d_Ru_takes_80 ?_
        refine EV.top (y := nI (q.2.1 + 1)) (by rw [hQ.2.2.1]; exact nI_1 _) ?_
        refine EV.V1 cv_Ru_41 d_Ru_takes_81 (by first | assumption | rfl) (sp_Ru_sign (x := q.2.1 + 1) hR) ⟨Nat.le_refl _, Nat.le_refl _⟩ rfl rfl (Nat.le_of_ble_eq_true rfl) (fun rv D1 hp => ?_)
        obtain ⟨rfl, o1, o2, o3, o4⟩ := hp
        refine EV.goto (tgt := 107) d_Ru_takes_84 (by decide) ?_
        exact EV.ireturn d_Ru_takes_107 ⟨_, rfl, rfl⟩ ⟨fun k k1 _ _ => o1 k k1, oR_s (q := (1, q.2.1 + 1, q.2.2)) (by unfold ru_st; rw [if_neg h1, if_pos h0, if_pos (by omega)]) ⟨rfl, by rw [o2]; exact hQ.1, o3, o4, by rw [o1 (r + 1) (by omega), o1 (r + 2) (by omega)]; exact hQ.2.2.2⟩⟩
      · refine EV.aload_n d_Ru_takes_66 rfl ?_
        refine EV.getI fl_Ru_25 d_Ru_takes_67 (by first | assumption | rfl) rfl ?_
        refine EV.iconst (v := nI 2) d_Ru_takes_70 (by decide) ?_
        refine EV.icmp_neN (tgt := 87) d_Ru_takes_71 (by decide) hQ.2.2.1 rfl (by omega) (by omega) (fun h71 => ?_) (fun h71 => ?_)
        · exact K (by omega)
        · refine EV.aload_n d_Ru_takes_74 rfl ?_
          refine EV.aload_n d_Ru_takes_75 rfl ?_
          refine EV.getI fl_Ru_25 d_Ru_takes_76 (by first | assumption | rfl) rfl ?_
          refine EV.iconst (v := nI 1) d_Ru_takes_79 (by decide) ?_
          refine EV.iadd d_Ru_takes_80 ?_
          refine EV.top (y := nI (q.2.1 + 1)) (by rw [hQ.2.2.1]; exact nI_1 _) ?_
          refine EV.V1 cv_Ru_41 d_Ru_takes_81 (by first | assumption | rfl) (sp_Ru_sign (x := q.2.1 + 1) hR) ⟨Nat.le_refl _, Nat.le_refl _⟩ rfl rfl (Nat.le_of_ble_eq_true rfl) (fun rv D1 hp => ?_)
          obtain ⟨rfl, o1, o2, o3, o4⟩ := hp
          refine EV.goto (tgt := 107) d_Ru_takes_84 (by decide) ?_
          exact EV.ireturn d_Ru_takes_107 ⟨_, rfl, rfl⟩ ⟨fun k k1 _ _ => o1 k k1, oR_s (q := (1, q.2.1 + 1, q.2.2)) (by unfold ru_st; rw [if_neg h1, if_pos h0, if_pos (by omega)]) ⟨rfl, by rw [o2]; exact hQ.1, o3, o4, by rw [o1 (r + 1) (by omega), o1 (r + 2) (by omega)]; exact hQ.2.2.2⟩⟩
  · refine EV.top (y := nI 2) (by rw [hQ.2.1, h0]) ?_
    refine EV.lsw (off := 104) (tgt := 108) d_Ru_takes_4 (by decide) (by decide) (by decide) ?_
    have h1 : ¬ q.1 = 0 := by omega
    have h2 : ¬ q.1 = 1 := by omega
    refine EV.iload_n d_Ru_takes_108 rfl ?_
    refine EV.bipush (v := nI 60) d_Ru_takes_109 (by decide) ?_
    refine EV.icmp_neN (tgt := 122) d_Ru_takes_111 (by decide) rfl rfl (by omega) (by omega) (fun h111 => ?_) (fun h111 => ?_)
    · refine EV.iload_n d_Ru_takes_122 rfl ?_
      refine EV.bipush (v := nI 61) d_Ru_takes_123 (by decide) ?_
      refine EV.icmp_neN (tgt := 136) d_Ru_takes_125 (by decide) rfl rfl (by omega) (by omega) (fun h125 => ?_) (fun h125 => ?_)
      · refine EV.aload_n d_Ru_takes_136 rfl ?_
        refine EV.iload_n d_Ru_takes_137 rfl ?_
        refine EV.V1 cv_Ru_51 d_Ru_takes_138 (by first | assumption | rfl) (sp_Ru_goOn hR hQ h0 (by omega) (w5 h0) (fun e he => (w4 e he).1) hc) ⟨Nat.le_refl _, Nat.le_refl _⟩ rfl rfl (Nat.le_of_ble_eq_true rfl) (fun rv D1 hp => ?_)
        obtain ⟨o1, o2⟩ := hp
        cases hg : ru_go q c with
        | none =>
          rw [hg] at o2
          obtain rfl := o2
          exact EV.ireturn d_Ru_takes_141 ⟨_, rfl, rfl⟩ ⟨o1, oR_n (by unfold ru_st; rw [if_neg h1, if_neg h2, if_neg h111, if_neg h125]; exact hg) rfl⟩
        | some q' =>
          rw [hg] at o2
          obtain ⟨rfl, o3⟩ := o2
          exact EV.ireturn d_Ru_takes_141 ⟨_, rfl, rfl⟩ ⟨o1, oR_s (q := q') (by unfold ru_st; rw [if_neg h1, if_neg h2, if_neg h111, if_neg h125]; exact hg) ⟨rfl, o3⟩⟩
      · refine EV.aload_n d_Ru_takes_128 rfl ?_
        refine EV.iconst (v := nI 4) d_Ru_takes_129 (by decide) ?_
        refine EV.V1 cv_Ru_41 d_Ru_takes_130 (by first | assumption | rfl) (sp_Ru_sign (x := 4) hR) ⟨Nat.le_refl _, Nat.le_refl _⟩ rfl rfl (Nat.le_of_ble_eq_true rfl) (fun rv D1 hp => ?_)
        obtain ⟨rfl, o1, o2, o3, o4⟩ := hp
        refine EV.goto (tgt := 141) d_Ru_takes_133 (by decide) ?_
        exact EV.ireturn d_Ru_takes_141 ⟨_, rfl, rfl⟩ ⟨fun k k1 _ _ => o1 k k1, oR_s (q := (1, 4, q.2.2)) (by unfold ru_st; rw [if_neg h1, if_neg h2, if_neg h111, if_pos h125]) ⟨rfl, by rw [o2]; exact hQ.1, o3, o4, by rw [o1 (r + 1) (by omega), o1 (r + 2) (by omega)]; exact hQ.2.2.2⟩⟩
    · refine EV.aload_n d_Ru_takes_114 rfl ?_
      refine EV.iconst (v := nI 1) d_Ru_takes_115 (by decide) ?_
      refine EV.V1 cv_Ru_41 d_Ru_takes_116 (by first | assumption | rfl) (sp_Ru_sign (x := 1) hR) ⟨Nat.le_refl _, Nat.le_refl _⟩ rfl rfl (Nat.le_of_ble_eq_true rfl) (fun rv D1 hp => ?_)
      obtain ⟨rfl, o1, o2, o3, o4⟩ := hp
      refine EV.goto (tgt := 141) d_Ru_takes_119 (by decide) ?_
      exact EV.ireturn d_Ru_takes_141 ⟨_, rfl, rfl⟩ ⟨fun k k1 _ _ => o1 k k1, oR_s (q := (1, 1, q.2.2)) (by unfold ru_st; rw [if_neg h1, if_neg h2, if_pos h111]) ⟨rfl, by rw [o2]; exact hQ.1, o3, o4, by rw [o1 (r + 1) (by omega), o1 (r + 2) (by omega)]; exact hQ.2.2.2⟩⟩
set_option maxHeartbeats 4000000 in
set_option maxRecDepth 100000 in
theorem lp_Ru_read {G : mx_G} {d : Nat} {S : List mx_Sh} {D0 : mx_Mem} {r o : Nat} {xs : List Nat} {X : Nat ⊕ ps_T} (hR : ShR S r) (hO : ShL S o 24) (hro : r + 2 < o ∨ o + 1 < r) (hL : LN D0 o xs) (hle : xs.length ≤ 24) (hch : ∀ c ∈ xs, 0 < c ∧ c < 128) : ∀ (m i : Nat) (D : mx_Mem) (q : ru_Q), i ≤ xs.length → xs.length - i = m → (∀ k, ¬ k = r → ¬ k = r + 1 → ¬ k = r + 2 → D k = D0 k) → RuS D r q → ru_wf q i → ru_ans xs.length (ru_rd q i (xs.drop i)) = X → EV G (d + 3) m_Ru_read 17 [some (.ref r), some (.ref o), some (.int (nI i))] [] S D S (RdP D0 r X) := by
  obtain ⟨hr0, hr1, hr2⟩ := id hR
  obtain ⟨ho0, ho1⟩ := id hO
  intro m
  induction m with
  | zero =>
    intro i D q h1 h2 hof hQ hw hX
    obtain ⟨w1, w2, w3, w4, w5, w6, w7, w8⟩ := id hw
    have hl : D o 1 = nI xs.length := by rw [hof o (by omega) (by omega) (by omega)]; exact hL.1
    rw [List.drop_of_length_le (by omega)] at hX
    refine EV.iload_n d_Ru_read_17 rfl ?_
    refine EV.aload_n d_Ru_read_18 rfl ?_
    refine EV.getI fl_Ru_28 d_Ru_read_19 (by first | assumption | rfl) rfl ?_
    refine EV.icmp_geN (tgt := 48) d_Ru_read_22 (by decide) rfl hl (by omega) (by omega) (fun h22 => ?_) (fun h22 => ?_)
    · refine EV.aload_n d_Ru_read_48 rfl ?_
      refine EV.getI fl_Ru_22 d_Ru_read_49 (by first | assumption | rfl) rfl ?_
      refine EV.iconst (v := nI 2) d_Ru_read_52 (by decide) ?_
      refine EV.icmp_neN (tgt := 71) d_Ru_read_53 (by decide) hQ.2.1 rfl (by omega) (by omega) (fun h53 => ?_) (fun h53 => ?_)
      · refine EV.iconst (v := (-1)) d_Ru_read_71 (by decide) ?_
        refine EV.aload_n d_Ru_read_72 rfl ?_
        refine EV.getI fl_Ru_28 d_Ru_read_73 (by first | assumption | rfl) rfl ?_
        refine EV.top hl ?_
        refine EV.isub d_Ru_read_76 ?_
        exact EV.ireturn d_Ru_read_77 ⟨_, rfl, rfl⟩ (RdP_f (by rw [← hX]; simp only [ru_rd, ru_ans]; rw [if_neg (by omega)]) hof)
      · refine EV.aload_n d_Ru_read_56 rfl ?_
        refine EV.getI fl_Ru_18 d_Ru_read_57 (by first | assumption | rfl) rfl ?_
        refine EV.iconst (v := nI 1) d_Ru_read_60 (by decide) ?_
        refine EV.icmp_leN (tgt := 71) d_Ru_read_61 (by decide) hQ.1 rfl (by omega) (by omega) (fun h61 => ?_) (fun h61 => ?_)
        · refine EV.iconst (v := (-1)) d_Ru_read_71 (by decide) ?_
          refine EV.aload_n d_Ru_read_72 rfl ?_
          refine EV.getI fl_Ru_28 d_Ru_read_73 (by first | assumption | rfl) rfl ?_
          refine EV.top hl ?_
          refine EV.isub d_Ru_read_76 ?_
          exact EV.ireturn d_Ru_read_77 ⟨_, rfl, rfl⟩ (RdP_f (by rw [← hX]; simp only [ru_rd, ru_ans]; rw [if_neg (by omega)]) hof)
        · refine EV.aload_n d_Ru_read_64 rfl ?_
          refine EV.getI fl_Ru_18 d_Ru_read_65 (by first | assumption | rfl) rfl ?_
          refine EV.top hQ.1 ?_
          refine EV.goto (tgt := 77) d_Ru_read_68 (by decide) ?_
          exact EV.ireturn d_Ru_read_77 ⟨_, rfl, rfl⟩ (RdP_t (by rw [← hX]; simp only [ru_rd, ru_ans]; rw [if_pos ⟨h53, h61⟩]) hof ⟨hQ.1, hQ.2.2.2, by omega, by omega, fun e he => (w4 e he).1, fun i e hi he => ⟨w8 i e hi he, (w4 e (List.mem_of_getElem? he)).2⟩⟩)
    · exfalso
      omega
  | succ m ih =>
    intro i D q h1 h2 hof hQ hw hX
    have hl : D o 1 = nI xs.length := by rw [hof o (by omega) (by omega) (by omega)]; exact hL.1
    obtain ⟨c, hc⟩ : ∃ c, xs[i]? = some c := ⟨xs[i]'(by omega), List.getElem?_eq_getElem (by omega)⟩
    have hcv : D (o + 1) i = nI c := by rw [hof (o + 1) (by omega) (by omega) (by omega)]; exact hL.2 i c hc
    have hdr : xs.drop i = c :: xs.drop (i + 1) := by rw [List.drop_eq_getElem_cons (by omega), (List.getElem?_eq_some_iff.mp hc).2]
    refine EV.iload_n d_Ru_read_17 rfl ?_
    refine EV.aload_n d_Ru_read_18 rfl ?_
    refine EV.getI fl_Ru_28 d_Ru_read_19 (by first | assumption | rfl) rfl ?_
    refine EV.icmp_geN (tgt := 48) d_Ru_read_22 (by decide) rfl hl (by omega) (by omega) (fun h22 => ?_) (fun h22 => ?_)
    · exfalso
      omega
    · refine EV.aload_n d_Ru_read_25 rfl ?_
      refine EV.aload_n d_Ru_read_26 rfl ?_
      refine EV.getR fl_Ru_33 d_Ru_read_27 (by first | assumption | rfl) rfl ?_
      refine EV.iload_n d_Ru_read_30 rfl ?_
      refine EV.caldN d_Ru_read_31 (by first | assumption | rfl) rfl rfl (by omega) (by first | decide | omega) ?_
      refine EV.top hcv ?_
      refine EV.V1 cv_Ru_37 d_Ru_read_32 (by first | assumption | rfl) (sp_Ru_takes hR hQ hw (by omega) (hch c (List.mem_of_getElem? hc))) ⟨Nat.le_refl _, Nat.le_refl _⟩ rfl rfl (Nat.le_of_ble_eq_true rfl) (fun rv D1 hp => ?_)
      obtain ⟨o1, o2⟩ := hp
      cases hg : ru_st q c with
      | none =>
        rw [hg] at o2
        obtain rfl := o2
        refine EV.if_neN (tgt := 42) d_Ru_read_35 (by decide) rfl (by decide) (fun h => absurd rfl h) (fun _ => ?_)
        refine EV.iconst (v := (-1)) d_Ru_read_38 (by decide) ?_
        refine EV.iload_n d_Ru_read_39 rfl ?_
        refine EV.isub d_Ru_read_40 ?_
        exact EV.ireturn d_Ru_read_41 ⟨_, rfl, rfl⟩ ⟨fun k k1 k2 k3 => (o1 k k1 k2 k3).trans (hof k k1 k2 k3), by rw [← hX, hdr]; simp only [ru_rd, hg, ru_ans]⟩
      | some q' =>
        rw [hg] at o2
        obtain ⟨rfl, o3⟩ := o2
        refine EV.if_neN (tgt := 42) d_Ru_read_35 (by decide) rfl (by decide) (fun _ => ?_) (fun h => absurd h (by decide))
        refine EV.iincN d_Ru_read_42 rfl (by decide) ?_
        refine EV.goto (tgt := 17) d_Ru_read_45 (by decide) ?_
        refine ih (i + 1) D1 q' (by omega) (by omega) (fun k k1 k2 k3 => (o1 k k1 k2 k3).trans (hof k k1 k2 k3)) o3 (ru_st_wf hw hg) ?_
        rw [← hX, hdr]
        simp only [ru_rd, hg]
set_option maxHeartbeats 4000000 in
set_option maxRecDepth 100000 in
theorem sp_Ru_read {G : mx_G} {d : Nat} {S : List mx_Sh} {D0 : mx_Mem} {r o : Nat} {xs : List Nat} (hR : ShR S r) (hO : ShL S o 24) (hro : r + 2 < o ∨ o + 1 < r) (hL : LN D0 o xs) (hle : xs.length ≤ 24) (hch : ∀ c ∈ xs, 0 < c ∧ c < 128) : EV G (d + 3) m_Ru_read 0 (mx_lc0 m_Ru_read [.ref r, .ref o]) [] S D0 S (RdP D0 r (ru_ans xs.length (ru_rd (0, 0, []) 0 xs))) := by
  obtain ⟨hr0, hr1, hr2⟩ := id hR
  obtain ⟨ho0, ho1⟩ := id hO
  show EV _ _ _ _ [some (.ref r), some (.ref o), none] [] _ _ _ _
  refine EV.aload_n d_Ru_read_0 rfl ?_
  refine EV.iconst (v := nI 0) d_Ru_read_1 (by decide) ?_
  refine EV.putI fl_Ru_18 d_Ru_read_2 (by first | assumption | rfl) rfl rfl rfl ?_
  refine EV.aload_n d_Ru_read_5 rfl ?_
  refine EV.iconst (v := nI 0) d_Ru_read_6 (by decide) ?_
  refine EV.putI fl_Ru_22 d_Ru_read_7 (by first | assumption | rfl) rfl rfl rfl ?_
  refine EV.aload_n d_Ru_read_10 rfl ?_
  refine EV.iconst (v := nI 0) d_Ru_read_11 (by decide) ?_
  refine EV.putI fl_Ru_25 d_Ru_read_12 (by first | assumption | rfl) rfl rfl rfl ?_
  refine EV.iconst (v := nI 0) d_Ru_read_15 (by decide) ?_
  refine EV.istore_n d_Ru_read_16 (by decide) ?_
  refine EV.post (fun rv D' h => ⟨fun k k1 k2 k3 => (h.1 k k1 k2 k3).trans (by simp [mx_w, va_up, k1]), h.2⟩) (lp_Ru_read hR hO hro ⟨?_, ?_⟩ hle hch xs.length 0 _ (0, 0, []) (by omega) rfl (fun _ _ _ _ => rfl) ⟨?_, ?_, ?_, ?_⟩ ⟨by decide, by decide, by decide, fun e he => (by cases he), fun h => absurd h (by decide), fun _ => rfl, fun h => absurd h (by decide), fun i e _ he => (by cases he)⟩ rfl)
  · simp [mx_w, va_up, show ¬ o = r by omega]; exact hL.1
  · simp [mx_w, va_up, show ¬ o + 1 = r by omega]; exact hL.2
  · simp [mx_w, va_up, upd]
  · simp [mx_w, va_up, upd]
  · simp [mx_w, va_up, upd]
  · intro i e he; cases he
