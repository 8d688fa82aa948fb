def af (st c : Nat) : Int32 :=
  if st % 10 = 0 then (if c = 38 then nI 1 else -1)
  else if ps_letter c = true ∧ (st % 10 < 4 ∨ 4 < st % 10) then nI (st - st % 10 + (if st % 10 = 2 ∨ st % 10 = 3 then st % 10 + 1 else 2))
  else if ps_mark c = true then (if st % 10 = 2 ∨ st % 10 = 3 then nI (st + 1) else -1)
  else if c = 61 then (if 1 < st % 10 ∧ st % 10 < 5 then nI 11 else -1)
  else if ¬ c = 60 ∨ st % 10 = 1 then -1
  else if st % 10 < 5 then nI 15 else if st % 10 = 5 then nI 16 else nI 11
def ru_L (q : ru_Q) : Nat := match q.2.2[q.2.2.length - 1]? with
  | some e => e.1.length
  | none => 0
/-- the reference's number for the state in which a rule is read -/
def ru_code (q : ru_Q) : Nat := if q.1 = 0 then 0 else if q.1 = 1 then (if q.2.1 = 0 then 1 else if q.2.1 = 1 then 15 else if q.2.1 = 2 then 16 else 11) else (if q.2.2.length = 1 then 1 else 11) + ru_L q
theorem ru_L_b {q : ru_Q} {n : Nat} (h : ru_wf q n) (h2 : q.1 = 2) : 1 ≤ ru_L q ∧ ru_L q ≤ 3 := by
  obtain ⟨w1, w2, w3, w4, w5, w6, w7, w8⟩ := h
  have hl := w5 h2
  unfold ru_L
  rw [List.getElem?_eq_getElem (by omega)]
  have := (w4 _ (List.getElem_mem (show q.2.2.length - 1 < q.2.2.length by omega))).1
  exact ⟨this.1, this.2.1⟩
theorem ps_excl (c : Nat) : (ps_letter c = true → ps_mark c = false ∧ ¬ c = 60 ∧ ¬ c = 61 ∧ ¬ c = 38) ∧ (ps_mark c = true → ¬ c = 60 ∧ ¬ c = 61) := by
  unfold ps_letter ps_mark
  simp
  omega
theorem af_code {q : ru_Q} {n c : Nat} (h : ru_wf q n) : af (ru_code q) c = match ru_st q c with
    | none => -1
    | some q' => nI (ru_code q') := by
  obtain ⟨w1, w2, w3, w4, w5, w6, w7, w8⟩ := id h
  obtain ⟨x1, x2⟩ := ps_excl c
  rcases (show q.1 = 0 ∨ q.1 = 1 ∨ q.1 = 2 by omega) with h0 | h0 | h0
  · have ec : ru_code q = 0 := by simp [ru_code, h0]
    rw [ec]
    unfold af ru_st
    rw [if_pos (by decide), if_pos h0]
    by_cases hc : c = 38
    · rw [if_pos hc, if_pos hc]; simp [ru_code]
    · rw [if_neg hc, if_neg hc]
  · have h1 : ¬ q.1 = 0 := by omega
    have hw := w7 h0
    unfold ru_st
    rw [if_neg h1, if_pos h0]
    by_cases hl : ps_letter c = true
    · obtain ⟨l1, l2, l3, l4⟩ := x1 hl
      rw [if_neg (fun z => l2 z.1), if_pos hl]
      have eL : ru_L (2, q.2.1, q.2.2 ++ [([c], q.2.1)]) = 1 := by simp [ru_L]
      have eq' : ru_code (2, q.2.1, q.2.2 ++ [([c], q.2.1)]) = (if q.2.1 = 0 then 2 else 12) := by
        unfold ru_code
        rw [eL]
        simp only [List.length_append, List.length_singleton]
        by_cases z : q.2.1 = 0
        · have := hw.mp z
          simp [z, this]
        · have : ¬ q.2.2.length = 0 := fun y => z (hw.mpr y)
          rw [if_neg (by decide), if_neg (by decide), if_neg (by omega), if_neg z]
      dsimp only
      rw [eq']
      have ec : ru_code q = (if q.2.1 = 0 then 1 else if q.2.1 = 1 then 15 else if q.2.1 = 2 then 16 else 11) := by unfold ru_code; rw [if_neg h1, if_pos h0]
      rw [ec]
      rcases (show q.2.1 = 0 ∨ q.2.1 = 1 ∨ q.2.1 = 2 ∨ q.2.1 = 3 ∨ q.2.1 = 4 by omega) with z | z | z | z | z <;> simp [z, af, hl]
    · by_cases hc : c = 60 ∧ (q.2.1 = 1 ∨ q.2.1 = 2)
      · rw [if_pos hc]
        have ec : ru_code q = (if q.2.1 = 0 then 1 else if q.2.1 = 1 then 15 else if q.2.1 = 2 then 16 else 11) := by unfold ru_code; rw [if_neg h1, if_pos h0]
        have hm : ¬ ps_mark c = true := fun y => (x2 y).1 hc.1
        rw [ec]
        have hc2 := hc.2
        have hc1 := hc.1
        clear hc x1 x2
        subst hc1
        rcases hc2 with z | z <;> simp [z, af, hl, hm, ru_code]
      · rw [if_neg hc, if_neg hl]
        have ec : ru_code q = (if q.2.1 = 0 then 1 else if q.2.1 = 1 then 15 else if q.2.1 = 2 then 16 else 11) := by unfold ru_code; rw [if_neg h1, if_pos h0]
        rw [ec]
        dsimp only
        rcases (show q.2.1 = 0 ∨ q.2.1 = 1 ∨ q.2.1 = 2 ∨ q.2.1 = 3 ∨ q.2.1 = 4 by omega) with z | z | z | z | z
        · simp [z, af, hl]
        · have : ¬ c = 60 := fun y => hc ⟨y, Or.inl z⟩
          simp [z, af, hl, this]
        · have : ¬ c = 60 := fun y => hc ⟨y, Or.inr z⟩
          simp [z, af, hl, this]
        · simp [z, af, hl]
        · simp [z, af, hl]
  · have h1 : ¬ q.1 = 0 := by omega
    have h2 : ¬ q.1 = 1 := by omega
    obtain ⟨b1, b2⟩ := ru_L_b h h0
    have hl1 := w5 h0
    obtain ⟨e, he⟩ : ∃ e, q.2.2[q.2.2.length - 1]? = some e := ⟨q.2.2[q.2.2.length - 1]'(by omega), List.getElem?_eq_getElem (by omega)⟩
    have eL : ru_L q = e.1.length := by unfold ru_L; rw [he]
    have ec : ru_code q = (if q.2.2.length = 1 then 1 else 11) + ru_L q := by unfold ru_code; rw [if_neg h1, if_neg h2]
    unfold ru_st
    rw [if_neg h1, if_neg h2]
    by_cases c6 : c = 60
    · rw [if_pos c6]
      have hl : ¬ ps_letter c = true := fun y => (x1 y).2.1 c6
      have hm : ¬ ps_mark c = true := fun y => (x2 y).1 c6
      rw [ec]
      subst c6
      rcases (show ru_L q = 1 ∨ ru_L q = 2 ∨ ru_L q = 3 by omega) with z | z | z <;> by_cases y : q.2.2.length = 1 <;> simp [z, y, af, hl, hm, ru_code]
    · rw [if_neg c6]
      by_cases c7 : c = 61
      · rw [if_pos c7]
        have hl : ¬ ps_letter c = true := fun y => (x1 y).2.2.1 c7
        have hm : ¬ ps_mark c = true := fun y => (x2 y).2 c7
        rw [ec]
        subst c7
        rcases (show ru_L q = 1 ∨ ru_L q = 2 ∨ ru_L q = 3 by omega) with z | z | z <;> by_cases y : q.2.2.length = 1 <;> simp [z, y, af, hl, hm, ru_code]
      · rw [if_neg c7]
        unfold ru_go
        rw [he]
        dsimp only
        by_cases hg : (ps_letter c || ps_mark c) = true ∧ e.1.length < 3
        · rw [if_pos hg]
          have eL2 : ru_L (2, q.2.1, q.2.2.set (q.2.2.length - 1) (e.1 ++ [c], e.2)) = e.1.length + 1 := by
            unfold ru_L
            dsimp only
            rw [List.length_set, List.getElem?_set_self (by omega)]
            simp
          have ec2 : ru_code (2, q.2.1, q.2.2.set (q.2.2.length - 1) (e.1 ++ [c], e.2)) = (if q.2.2.length = 1 then 1 else 11) + (e.1.length + 1) := by
            unfold ru_code
            rw [eL2]
            simp
          dsimp only
          rw [ec2, ec, eL]
          have hor := hg.1
          rw [Bool.or_eq_true] at hor
          have hz := hg.2
          rcases (show e.1.length = 1 ∨ e.1.length = 2 by omega) with z | z
          · by_cases y : q.2.2.length = 1 <;> rcases hor with hl | hm
            · simp [z, y, af, hl]
            · have hl : ¬ ps_letter c = true := fun u => by have := (x1 u).1; rw [hm] at this; cases this
              simp [z, y, af, hl, hm]
            · simp [z, y, af, hl]
            · have hl : ¬ ps_letter c = true := fun u => by have := (x1 u).1; rw [hm] at this; cases this
              simp [z, y, af, hl, hm]
          · by_cases y : q.2.2.length = 1 <;> rcases hor with hl | hm
            · simp [z, y, af, hl]
            · have hl : ¬ ps_letter c = true := fun u => by have := (x1 u).1; rw [hm] at this; cases this
              simp [z, y, af, hl, hm]
            · simp [z, y, af, hl]
            · have hl : ¬ ps_letter c = true := fun u => by have := (x1 u).1; rw [hm] at this; cases this
              simp [z, y, af, hl, hm]
        · rw [if_neg hg]
          dsimp only
          rw [ec, eL]
          rw [eL] at b1 b2
          by_cases hz : e.1.length = 3
          · by_cases y : q.2.2.length = 1 <;> by_cases hm : ps_mark c = true <;> simp [hz, y, af, hm, c6, c7]
          · have hor : ¬ (ps_letter c || ps_mark c) = true := fun u => hg ⟨u, by omega⟩
            have hl : ¬ ps_letter c = true := fun u => hor (by simp [u])
            have hm : ¬ ps_mark c = true := fun u => hor (by simp [u])
            rcases (show e.1.length = 1 ∨ e.1.length = 2 by omega) with z | z <;> by_cases y : q.2.2.length = 1 <;> simp [z, y, af, hl, hm, c6, c7]
theorem ru_code_lt {q : ru_Q} {n : Nat} (h : ru_wf q n) : ru_code q < 20 := by
  unfold ru_code
  split
  · omega
  · split
    · split
      · omega
      · split
        · omega
        · split <;> omega
    · have w := h.1
      have := ru_L_b h (by omega)
      split <;> omega
set_option maxHeartbeats 4000000 in
set_option maxRecDepth 100000 in
theorem sp_Mo_after {G : mx_G} {d : Nat} {S : List mx_Sh} {D : mx_Mem} {st c : Nat} (hst : st < 20) (hc : c < 2 ^ 31) : EV G (d + 1) m_Mo_after 0 (mx_lc0 m_Mo_after [.int (nI st), .int (nI c)]) [] S D S (RI (af st c) D) := by
  have K : ∀ (h29 : ps_letter c = false ∨ st % 10 = 4), ¬ st % 10 = 0 → EV G (d + 1) m_Mo_after 62 [some (.int (nI st)), some (.int (nI c)), some (.int (nI (st % 10))), some (.int (nI (st - st % 10)))] [] S D S (RI (af st c) D) := by
    intro h29 h10
    have h29' : ¬ (ps_letter c = true ∧ (st % 10 < 4 ∨ 4 < st % 10)) := fun z => by
      rcases h29 with h | h
      · rw [h] at z; exact absurd z.1 (by decide)
      · omega
    refine EV.iload_n d_Mo_after_62 rfl ?_
    refine EV.T1 cs_Mo_60 d_Mo_after_63 (sp_Mo_isMark (by omega)) ⟨Nat.le_refl _, Nat.le_refl _⟩ rfl rfl (Nat.le_of_ble_eq_true rfl) (fun rv D1 hp => ?_)
    obtain ⟨rfl, hD⟩ := hp
    obtain rfl := hD.symm
    refine EV.if_eqB (tgt := 87) d_Mo_after_66 (by decide) (fun h66 => ?_) (fun h66 => ?_)
    · refine EV.iload_n d_Mo_after_87 rfl ?_
      refine EV.bipush (v := nI 61) d_Mo_after_88 (by decide) ?_
      refine EV.icmp_neN (tgt := 110) d_Mo_after_90 (by decide) rfl rfl (by omega) (by omega) (fun h90 => ?_) (fun h90 => ?_)
      · refine EV.iload_n d_Mo_after_110 rfl ?_
        refine EV.bipush (v := nI 60) d_Mo_after_111 (by decide) ?_
        refine EV.icmp_neN (tgt := 121) d_Mo_after_113 (by decide) rfl rfl (by omega) (by omega) (fun h113 => ?_) (fun h113 => ?_)
        · refine EV.iconst (v := (-1)) d_Mo_after_121 (by decide) ?_
          exact EV.ireturn d_Mo_after_122 ⟨_, rfl, rfl⟩ ⟨by
              first
              | (exfalso; omega)
              | (unfold af
                 first
                 | (rw [if_pos (by omega)]; first | rw [if_pos (by omega)] | rw [if_neg (by omega)])
                 | (rw [if_neg (by omega)]
                    first
                    | (rw [if_pos ⟨by assumption, by omega⟩]; first | (rw [if_pos (by omega)]; done) | (rw [if_neg (by omega)]; done))
                    | (rw [if_neg (h29')]
                       first
                       | (rw [if_pos (by assumption)]; first | (rw [if_pos (by omega)]; done) | (rw [if_neg (by omega)]; done))
                       | (rw [if_neg (fun z => by simp_all; done)]
                          first
                          | (rw [if_pos (by omega)]; first | (rw [if_pos (by omega)]; done) | (rw [if_neg (by omega)]; done))
                          | (rw [if_neg (by omega)]
                             first
                             | (rw [if_pos (by omega)]; done)
                             | (rw [if_neg (by omega)]; first | (rw [if_pos (by omega)]; done) | (rw [if_neg (by omega)]; first | (rw [if_pos (by omega)]; done) | (rw [if_neg (by omega)]; done)))))))), rfl⟩
        · refine EV.iload_n d_Mo_after_116 rfl ?_
          refine EV.iconst (v := nI 1) d_Mo_after_117 (by decide) ?_
          refine EV.icmp_neN (tgt := 123) d_Mo_after_118 (by decide) rfl rfl (by omega) (by omega) (fun h118 => ?_) (fun h118 => ?_)
          · refine EV.iload_n d_Mo_after_123 rfl ?_
            refine EV.iconst (v := nI 5) d_Mo_after_124 (by decide) ?_
            refine EV.icmp_geN (tgt := 133) d_Mo_after_125 (by decide) rfl rfl (by omega) (by omega) (fun h125 => ?_) (fun h125 => ?_)
            · refine EV.iload_n d_Mo_after_133 rfl ?_
              refine EV.iconst (v := nI 5) d_Mo_after_134 (by decide) ?_
              refine EV.icmp_neN (tgt := 143) d_Mo_after_135 (by decide) rfl rfl (by omega) (by omega) (fun h135 => ?_) (fun h135 => ?_)
              · refine EV.bipush (v := nI 11) d_Mo_after_143 (by decide) ?_
                exact EV.ireturn d_Mo_after_145 ⟨_, rfl, rfl⟩ ⟨by
              first
              | (exfalso; omega)
              | (unfold af
                 first
                 | (rw [if_pos (by omega)]; first | rw [if_pos (by omega)] | rw [if_neg (by omega)])
                 | (rw [if_neg (by omega)]
                    first
                    | (rw [if_pos ⟨by assumption, by omega⟩]; first | (rw [if_pos (by omega)]; done) | (rw [if_neg (by omega)]; done))
                    | (rw [if_neg (h29')]
                       first
                       | (rw [if_pos (by assumption)]; first | (rw [if_pos (by omega)]; done) | (rw [if_neg (by omega)]; done))
                       | (rw [if_neg (fun z => by simp_all; done)]
                          first
                          | (rw [if_pos (by omega)]; first | (rw [if_pos (by omega)]; done) | (rw [if_neg (by omega)]; done))
                          | (rw [if_neg (by omega)]
                             first
                             | (rw [if_pos (by omega)]; done)
                             | (rw [if_neg (by omega)]; first | (rw [if_pos (by omega)]; done) | (rw [if_neg (by omega)]; first | (rw [if_pos (by omega)]; done) | (rw [if_neg (by omega)]; done)))))))), rfl⟩
              · refine EV.bipush (v := nI 16) d_Mo_after_138 (by decide) ?_
                refine EV.goto (tgt := 145) d_Mo_after_140 (by decide) ?_
                exact EV.ireturn d_Mo_after_145 ⟨_, rfl, rfl⟩ ⟨by
              first
              | (exfalso; omega)
              | (unfold af
                 first
                 | (rw [if_pos (by omega)]; first | rw [if_pos (by omega)] | rw [if_neg (by omega)])
                 | (rw [if_neg (by omega)]
                    first
                    | (rw [if_pos ⟨by assumption, by omega⟩]; first | (rw [if_pos (by omega)]; done) | (rw [if_neg (by omega)]; done))
                    | (rw [if_neg (h29')]
                       first
                       | (rw [if_pos (by assumption)]; first | (rw [if_pos (by omega)]; done) | (rw [if_neg (by omega)]; done))
                       | (rw [if_neg (fun z => by simp_all; done)]
                          first
                          | (rw [if_pos (by omega)]; first | (rw [if_pos (by omega)]; done) | (rw [if_neg (by omega)]; done))
                          | (rw [if_neg (by omega)]
                             first
                             | (rw [if_pos (by omega)]; done)
                             | (rw [if_neg (by omega)]; first | (rw [if_pos (by omega)]; done) | (rw [if_neg (by omega)]; first | (rw [if_pos (by omega)]; done) | (rw [if_neg (by omega)]; done)))))))), rfl⟩
            · refine EV.bipush (v := nI 15) d_Mo_after_128 (by decide) ?_
              refine EV.goto (tgt := 145) d_Mo_after_130 (by decide) ?_
              exact EV.ireturn d_Mo_after_145 ⟨_, rfl, rfl⟩ ⟨by
              first
              | (exfalso; omega)
              | (unfold af
                 first
                 | (rw [if_pos (by omega)]; first | rw [if_pos (by omega)] | rw [if_neg (by omega)])
                 | (rw [if_neg (by omega)]
                    first
                    | (rw [if_pos ⟨by assumption, by omega⟩]; first | (rw [if_pos (by omega)]; done) | (rw [if_neg (by omega)]; done))
                    | (rw [if_neg (h29')]
                       first
                       | (rw [if_pos (by assumption)]; first | (rw [if_pos (by omega)]; done) | (rw [if_neg (by omega)]; done))
                       | (rw [if_neg (fun z => by simp_all; done)]
                          first
                          | (rw [if_pos (by omega)]; first | (rw [if_pos (by omega)]; done) | (rw [if_neg (by omega)]; done))
                          | (rw [if_neg (by omega)]
                             first
                             | (rw [if_pos (by omega)]; done)
                             | (rw [if_neg (by omega)]; first | (rw [if_pos (by omega)]; done) | (rw [if_neg (by omega)]; first | (rw [if_pos (by omega)]; done) | (rw [if_neg (by omega)]; done)))))))), rfl⟩
          · refine EV.iconst (v := (-1)) d_Mo_after_121 (by decide) ?_
            exact EV.ireturn d_Mo_after_122 ⟨_, rfl, rfl⟩ ⟨by
              first
              | (exfalso; omega)
              | (unfold af
                 first
                 | (rw [if_pos (by omega)]; first | rw [if_pos (by omega)] | rw [if_neg (by omega)])
                 | (rw [if_neg (by omega)]
                    first
                    | (rw [if_pos ⟨by assumption, by omega⟩]; first | (rw [if_pos (by omega)]; done) | (rw [if_neg (by omega)]; done))
                    | (rw [if_neg (h29')]
                       first
                       | (rw [if_pos (by assumption)]; first | (rw [if_pos (by omega)]; done) | (rw [if_neg (by omega)]; done))
                       | (rw [if_neg (fun z => by simp_all; done)]
                          first
                          | (rw [if_pos (by omega)]; first | (rw [if_pos (by omega)]; done) | (rw [if_neg (by omega)]; done))
                          | (rw [if_neg (by omega)]
                             first
                             | (rw [if_pos (by omega)]; done)
                             | (rw [if_neg (by omega)]; first | (rw [if_pos (by omega)]; done) | (rw [if_neg (by omega)]; first | (rw [if_pos (by omega)]; done) | (rw [if_neg (by omega)]; done)))))))), rfl⟩
      · refine EV.iload_n d_Mo_after_93 rfl ?_
        refine EV.iconst (v := nI 1) d_Mo_after_94 (by decide) ?_
        refine EV.icmp_leN (tgt := 108) d_Mo_after_95 (by decide) rfl rfl (by omega) (by omega) (fun h95 => ?_) (fun h95 => ?_)
        · refine EV.iconst (v := (-1)) d_Mo_after_108 (by decide) ?_
          exact EV.ireturn d_Mo_after_109 ⟨_, rfl, rfl⟩ ⟨by
              first
              | (exfalso; omega)
              | (unfold af
                 first
                 | (rw [if_pos (by omega)]; first | rw [if_pos (by omega)] | rw [if_neg (by omega)])
                 | (rw [if_neg (by omega)]
                    first
                    | (rw [if_pos ⟨by assumption, by omega⟩]; first | (rw [if_pos (by omega)]; done) | (rw [if_neg (by omega)]; done))
                    | (rw [if_neg (h29')]
                       first
                       | (rw [if_pos (by assumption)]; first | (rw [if_pos (by omega)]; done) | (rw [if_neg (by omega)]; done))
                       | (rw [if_neg (fun z => by simp_all; done)]
                          first
                          | (rw [if_pos (by omega)]; first | (rw [if_pos (by omega)]; done) | (rw [if_neg (by omega)]; done))
                          | (rw [if_neg (by omega)]
                             first
                             | (rw [if_pos (by omega)]; done)
                             | (rw [if_neg (by omega)]; first | (rw [if_pos (by omega)]; done) | (rw [if_neg (by omega)]; first | (rw [if_pos (by omega)]; done) | (rw [if_neg (by omega)]; done)))))))), rfl⟩
        · refine EV.iload_n d_Mo_after_98 rfl ?_
          refine EV.iconst (v := nI 5) d_Mo_after_99 (by decide) ?_
          refine EV.icmp_geN (tgt := 108) d_Mo_after_100 (by decide) rfl rfl (by omega) (by omega) (fun h100 => ?_) (fun h100 => ?_)
          · refine EV.iconst (v := (-1)) d_Mo_after_108 (by decide) ?_
            exact EV.ireturn d_Mo_after_109 ⟨_, rfl, rfl⟩ ⟨by
              first
              | (exfalso; omega)
              | (unfold af
                 first
                 | (rw [if_pos (by omega)]; first | rw [if_pos (by omega)] | rw [if_neg (by omega)])
                 | (rw [if_neg (by omega)]
                    first
                    | (rw [if_pos ⟨by assumption, by omega⟩]; first | (rw [if_pos (by omega)]; done) | (rw [if_neg (by omega)]; done))
                    | (rw [if_neg (h29')]
                       first
                       | (rw [if_pos (by assumption)]; first | (rw [if_pos (by omega)]; done) | (rw [if_neg (by omega)]; done))
                       | (rw [if_neg (fun z => by simp_all; done)]
                          first
                          | (rw [if_pos (by omega)]; first | (rw [if_pos (by omega)]; done) | (rw [if_neg (by omega)]; done))
                          | (rw [if_neg (by omega)]
                             first
                             | (rw [if_pos (by omega)]; done)
                             | (rw [if_neg (by omega)]; first | (rw [if_pos (by omega)]; done) | (rw [if_neg (by omega)]; first | (rw [if_pos (by omega)]; done) | (rw [if_neg (by omega)]; done)))))))), rfl⟩
          · refine EV.bipush (v := nI 11) d_Mo_after_103 (by decide) ?_
            refine EV.goto (tgt := 109) d_Mo_after_105 (by decide) ?_
            exact EV.ireturn d_Mo_after_109 ⟨_, rfl, rfl⟩ ⟨by
              first
              | (exfalso; omega)
              | (unfold af
                 first
                 | (rw [if_pos (by omega)]; first | rw [if_pos (by omega)] | rw [if_neg (by omega)])
                 | (rw [if_neg (by omega)]
                    first
                    | (rw [if_pos ⟨by assumption, by omega⟩]; first | (rw [if_pos (by omega)]; done) | (rw [if_neg (by omega)]; done))
                    | (rw [if_neg (h29')]
                       first
                       | (rw [if_pos (by assumption)]; first | (rw [if_pos (by omega)]; done) | (rw [if_neg (by omega)]; done))
                       | (rw [if_neg (fun z => by simp_all; done)]
                          first
                          | (rw [if_pos (by omega)]; first | (rw [if_pos (by omega)]; done) | (rw [if_neg (by omega)]; done))
                          | (rw [if_neg (by omega)]
                             first
                             | (rw [if_pos (by omega)]; done)
                             | (rw [if_neg (by omega)]; first | (rw [if_pos (by omega)]; done) | (rw [if_neg (by omega)]; first | (rw [if_pos (by omega)]; done) | (rw [if_neg (by omega)]; done)))))))), rfl⟩
    refine EV.iload_n d_Mo_after_69 rfl ?_
    refine EV.iconst (v := nI 2) d_Mo_after_70 (by decide) ?_
    refine EV.icmp_eqN (tgt := 79) d_Mo_after_71 (by decide) rfl rfl (by omega) (by omega) (fun h71 => ?_) (fun h71 => ?_)
    · refine EV.iload_n d_Mo_after_79 rfl ?_
      refine EV.iconst (v := nI 1) d_Mo_after_80 (by decide) ?_
      refine EV.iadd d_Mo_after_81 ?_
      refine EV.top (y := nI (st + 1)) (nI_1 _) ?_
      refine EV.goto (tgt := 86) d_Mo_after_82 (by decide) ?_
      exact EV.ireturn d_Mo_after_86 ⟨_, rfl, rfl⟩ ⟨by
        first
        | (exfalso; omega)
        | (unfold af
           first
           | (rw [if_pos (by omega)]; first | rw [if_pos (by omega)] | rw [if_neg (by omega)])
           | (rw [if_neg (by omega)]
              first
              | (rw [if_pos ⟨by assumption, by omega⟩]; first | (rw [if_pos (by omega)]; done) | (rw [if_neg (by omega)]; done))
              | (rw [if_neg (h29')]
                 first
                 | (rw [if_pos (by assumption)]; first | (rw [if_pos (by omega)]; done) | (rw [if_neg (by omega)]; done))
                 | (rw [if_neg (fun z => by simp_all; done)]
                    first
                    | (rw [if_pos (by omega)]; first | (rw [if_pos (by omega)]; done) | (rw [if_neg (by omega)]; done))
                    | (rw [if_neg (by omega)]
                       first
                       | (rw [if_pos (by omega)]; done)
                       | (rw [if_neg (by omega)]; first | (rw [if_pos (by omega)]; done) | (rw [if_neg (by omega)]; first | (rw [if_pos (by omega)]; done) | (rw [if_neg (by omega)]; done)))))))), rfl⟩
    · refine EV.iload_n d_Mo_after_74 rfl ?_
      refine EV.iconst (v := nI 3) d_Mo_after_75 (by decide) ?_
      refine EV.icmp_neN (tgt := 85) d_Mo_after_76 (by decide) rfl rfl (by omega) (by omega) (fun h76 => ?_) (fun h76 => ?_)
      · refine EV.iconst (v := (-1)) d_Mo_after_85 (by decide) ?_
        exact EV.ireturn d_Mo_after_86 ⟨_, rfl, rfl⟩ ⟨by
        first
        | (exfalso; omega)
        | (unfold af
           first
           | (rw [if_pos (by omega)]; first | rw [if_pos (by omega)] | rw [if_neg (by omega)])
           | (rw [if_neg (by omega)]
              first
              | (rw [if_pos ⟨by assumption, by omega⟩]; first | (rw [if_pos (by omega)]; done) | (rw [if_neg (by omega)]; done))
              | (rw [if_neg (h29')]
                 first
                 | (rw [if_pos (by assumption)]; first | (rw [if_pos (by omega)]; done) | (rw [if_neg (by omega)]; done))
                 | (rw [if_neg (fun z => by simp_all; done)]
                    first
                    | (rw [if_pos (by omega)]; first | (rw [if_pos (by omega)]; done) | (rw [if_neg (by omega)]; done))
                    | (rw [if_neg (by omega)]
                       first
                       | (rw [if_pos (by omega)]; done)
                       | (rw [if_neg (by omega)]; first | (rw [if_pos (by omega)]; done) | (rw [if_neg (by omega)]; first | (rw [if_pos (by omega)]; done) | (rw [if_neg (by omega)]; done)))))))), rfl⟩
      · refine EV.iload_n d_Mo_after_79 rfl ?_
        refine EV.iconst (v := nI 1) d_Mo_after_80 (by decide) ?_
        refine EV.iadd d_Mo_after_81 ?_
        refine EV.top (y := nI (st + 1)) (nI_1 _) ?_
        refine EV.goto (tgt := 86) d_Mo_after_82 (by decide) ?_
        exact EV.ireturn d_Mo_after_86 ⟨_, rfl, rfl⟩ ⟨by
        first
        | (exfalso; omega)
        | (unfold af
           first
           | (rw [if_pos (by omega)]; first | rw [if_pos (by omega)] | rw [if_neg (by omega)])
           | (rw [if_neg (by omega)]
              first
              | (rw [if_pos ⟨by assumption, by omega⟩]; first | (rw [if_pos (by omega)]; done) | (rw [if_neg (by omega)]; done))
              | (rw [if_neg (h29')]
                 first
                 | (rw [if_pos (by assumption)]; first | (rw [if_pos (by omega)]; done) | (rw [if_neg (by omega)]; done))
                 | (rw [if_neg (fun z => by simp_all; done)]
                    first
                    | (rw [if_pos (by omega)]; first | (rw [if_pos (by omega)]; done) | (rw [if_neg (by omega)]; done))
                    | (rw [if_neg (by omega)]
                       first
                       | (rw [if_pos (by omega)]; done)
                       | (rw [if_neg (by omega)]; first | (rw [if_pos (by omega)]; done) | (rw [if_neg (by omega)]; first | (rw [if_pos (by omega)]; done) | (rw [if_neg (by omega)]; done)))))))), rfl⟩
  show EV _ _ _ _ [some (.int (nI st)), some (.int (nI c)), none, none] [] _ _ _ _
  refine EV.iload_n d_Mo_after_0 rfl ?_
  refine EV.bipush (v := nI 10) d_Mo_after_1 (by decide) ?_
  refine EV.irem d_Mo_after_3 (by decide) ?_
  refine EV.top (y := nI (st % 10)) (pk_rem (by omega) (by decide) (by decide)) ?_
  refine EV.istore_n d_Mo_after_4 (by decide) ?_
  refine EV.iload_n d_Mo_after_5 rfl ?_
  refine EV.iload_n d_Mo_after_6 rfl ?_
  refine EV.isub d_Mo_after_7 ?_
  refine EV.top (y := nI (st - st % 10)) (pk_sub (by omega)) ?_
  refine EV.istore_n d_Mo_after_8 (by decide) ?_
  refine EV.iload_n d_Mo_after_9 rfl ?_
  refine EV.if_neN (tgt := 25) d_Mo_after_10 (by decide) rfl (by omega) (fun h10 => ?_) (fun h10 => ?_)
  · refine EV.iload_n d_Mo_after_25 rfl ?_
    refine EV.T1 cs_Mo_56 d_Mo_after_26 (sp_Mo_isLetter (by omega)) ⟨Nat.le_refl _, Nat.le_refl _⟩ rfl rfl (Nat.le_of_ble_eq_true rfl) (fun rv D1 hp => ?_)
    obtain ⟨rfl, hD⟩ := hp
    obtain rfl := hD.symm
    refine EV.if_eqB (tgt := 62) d_Mo_after_29 (by decide) (fun h29 => ?_) (fun h29 => ?_)
    · exact K (Or.inl h29) h10
    refine EV.iload_n d_Mo_after_32 rfl ?_
    refine EV.iconst (v := nI 4) d_Mo_after_33 (by decide) ?_
    refine EV.icmp_ltN (tgt := 42) d_Mo_after_34 (by decide) rfl rfl (by omega) (by omega) (fun h34 => ?_) (fun h34 => ?_)
    · refine EV.iload_n d_Mo_after_42 rfl ?_
      refine EV.iload_n d_Mo_after_43 rfl ?_
      refine EV.iconst (v := nI 2) d_Mo_after_44 (by decide) ?_
      refine EV.icmp_eqN (tgt := 53) d_Mo_after_45 (by decide) rfl rfl (by omega) (by omega) (fun h45 => ?_) (fun h45 => ?_)
      · refine EV.iload_n d_Mo_after_53 rfl ?_
        refine EV.iconst (v := nI 1) d_Mo_after_54 (by decide) ?_
        refine EV.iadd d_Mo_after_55 ?_
        refine EV.top (y := nI (st % 10 + 1)) (nI_1 _) ?_
        refine EV.goto (tgt := 60) d_Mo_after_56 (by decide) ?_
        refine EV.iadd d_Mo_after_60 ?_
        refine EV.top (nI_add _ _) ?_
        exact EV.ireturn d_Mo_after_61 ⟨_, rfl, rfl⟩ ⟨by
        first
        | (exfalso; omega)
        | (unfold af
           first
           | (rw [if_pos (by omega)]; first | rw [if_pos (by omega)] | rw [if_neg (by omega)])
           | (rw [if_neg (by omega)]
              first
              | (rw [if_pos ⟨by assumption, by omega⟩]; first | (rw [if_pos (by omega)]; done) | (rw [if_neg (by omega)]; done))
              | (rw [if_neg (fun z => by first | (have := z.2; omega) | (have := z.1; simp_all; done))]
                 first
                 | (rw [if_pos (by assumption)]; first | (rw [if_pos (by omega)]; done) | (rw [if_neg (by omega)]; done))
                 | (rw [if_neg (fun z => by simp_all; done)]
                    first
                    | (rw [if_pos (by omega)]; first | (rw [if_pos (by omega)]; done) | (rw [if_neg (by omega)]; done))
                    | (rw [if_neg (by omega)]
                       first
                       | (rw [if_pos (by omega)]; done)
                       | (rw [if_neg (by omega)]; first | (rw [if_pos (by omega)]; done) | (rw [if_neg (by omega)]; first | (rw [if_pos (by omega)]; done) | (rw [if_neg (by omega)]; done)))))))), rfl⟩
      · refine EV.iload_n d_Mo_after_48 rfl ?_
        refine EV.iconst (v := nI 3) d_Mo_after_49 (by decide) ?_
        refine EV.icmp_neN (tgt := 59) d_Mo_after_50 (by decide) rfl rfl (by omega) (by omega) (fun h50 => ?_) (fun h50 => ?_)
        · refine EV.iconst (v := nI 2) d_Mo_after_59 (by decide) ?_
          refine EV.iadd d_Mo_after_60 ?_
          refine EV.top (nI_add _ _) ?_
          exact EV.ireturn d_Mo_after_61 ⟨_, rfl, rfl⟩ ⟨by
        first
        | (exfalso; omega)
        | (unfold af
           first
           | (rw [if_pos (by omega)]; first | rw [if_pos (by omega)] | rw [if_neg (by omega)])
           | (rw [if_neg (by omega)]
              first
              | (rw [if_pos ⟨by assumption, by omega⟩]; first | (rw [if_pos (by omega)]; done) | (rw [if_neg (by omega)]; done))
              | (rw [if_neg (fun z => by first | (have := z.2; omega) | (have := z.1; simp_all; done))]
                 first
                 | (rw [if_pos (by assumption)]; first | (rw [if_pos (by omega)]; done) | (rw [if_neg (by omega)]; done))
                 | (rw [if_neg (fun z => by simp_all; done)]
                    first
                    | (rw [if_pos (by omega)]; first | (rw [if_pos (by omega)]; done) | (rw [if_neg (by omega)]; done))
                    | (rw [if_neg (by omega)]
                       first
                       | (rw [if_pos (by omega)]; done)
                       | (rw [if_neg (by omega)]; first | (rw [if_pos (by omega)]; done) | (rw [if_neg (by omega)]; first | (rw [if_pos (by omega)]; done) | (rw [if_neg (by omega)]; done)))))))), rfl⟩
        · refine EV.iload_n d_Mo_after_53 rfl ?_
          refine EV.iconst (v := nI 1) d_Mo_after_54 (by decide) ?_
          refine EV.iadd d_Mo_after_55 ?_
          refine EV.top (y := nI (st % 10 + 1)) (nI_1 _) ?_
          refine EV.goto (tgt := 60) d_Mo_after_56 (by decide) ?_
          refine EV.iadd d_Mo_after_60 ?_
          refine EV.top (nI_add _ _) ?_
          exact EV.ireturn d_Mo_after_61 ⟨_, rfl, rfl⟩ ⟨by
        first
        | (exfalso; omega)
        | (unfold af
           first
           | (rw [if_pos (by omega)]; first | rw [if_pos (by omega)] | rw [if_neg (by omega)])
           | (rw [if_neg (by omega)]
              first
              | (rw [if_pos ⟨by assumption, by omega⟩]; first | (rw [if_pos (by omega)]; done) | (rw [if_neg (by omega)]; done))
              | (rw [if_neg (fun z => by first | (have := z.2; omega) | (have := z.1; simp_all; done))]
                 first
                 | (rw [if_pos (by assumption)]; first | (rw [if_pos (by omega)]; done) | (rw [if_neg (by omega)]; done))
                 | (rw [if_neg (fun z => by simp_all; done)]
                    first
                    | (rw [if_pos (by omega)]; first | (rw [if_pos (by omega)]; done) | (rw [if_neg (by omega)]; done))
                    | (rw [if_neg (by omega)]
                       first
                       | (rw [if_pos (by omega)]; done)
                       | (rw [if_neg (by omega)]; first | (rw [if_pos (by omega)]; done) | (rw [if_neg (by omega)]; first | (rw [if_pos (by omega)]; done) | (rw [if_neg (by omega)]; done)))))))), rfl⟩
    · refine EV.iload_n d_Mo_after_37 rfl ?_
      refine EV.iconst (v := nI 4) d_Mo_after_38 (by decide) ?_
      refine EV.icmp_leN (tgt := 62) d_Mo_after_39 (by decide) rfl rfl (by omega) (by omega) (fun h39 => ?_) (fun h39 => ?_)
      · exact K (Or.inr (by omega)) h10
      · refine EV.iload_n d_Mo_after_42 rfl ?_
        refine EV.iload_n d_Mo_after_43 rfl ?_
        refine EV.iconst (v := nI 2) d_Mo_after_44 (by decide) ?_
        refine EV.icmp_eqN (tgt := 53) d_Mo_after_45 (by decide) rfl rfl (by omega) (by omega) (fun h45 => ?_) (fun h45 => ?_)
        · refine EV.iload_n d_Mo_after_53 rfl ?_
          refine EV.iconst (v := nI 1) d_Mo_after_54 (by decide) ?_
          refine EV.iadd d_Mo_after_55 ?_
          refine EV.top (y := nI (st % 10 + 1)) (nI_1 _) ?_
          refine EV.goto (tgt := 60) d_Mo_after_56 (by decide) ?_
          refine EV.iadd d_Mo_after_60 ?_
          refine EV.top (nI_add _ _) ?_
          exact EV.ireturn d_Mo_after_61 ⟨_, rfl, rfl⟩ ⟨by
        first
        | (exfalso; omega)
        | (unfold af
           first
           | (rw [if_pos (by omega)]; first | rw [if_pos (by omega)] | rw [if_neg (by omega)])
           | (rw [if_neg (by omega)]
              first
              | (rw [if_pos ⟨by assumption, by omega⟩]; first | (rw [if_pos (by omega)]; done) | (rw [if_neg (by omega)]; done))
              | (rw [if_neg (fun z => by first | (have := z.2; omega) | (have := z.1; simp_all; done))]
                 first
                 | (rw [if_pos (by assumption)]; first | (rw [if_pos (by omega)]; done) | (rw [if_neg (by omega)]; done))
                 | (rw [if_neg (fun z => by simp_all; done)]
                    first
                    | (rw [if_pos (by omega)]; first | (rw [if_pos (by omega)]; done) | (rw [if_neg (by omega)]; done))
                    | (rw [if_neg (by omega)]
                       first
                       | (rw [if_pos (by omega)]; done)
                       | (rw [if_neg (by omega)]; first | (rw [if_pos (by omega)]; done) | (rw [if_neg (by omega)]; first | (rw [if_pos (by omega)]; done) | (rw [if_neg (by omega)]; done)))))))), rfl⟩
        · refine EV.iload_n d_Mo_after_48 rfl ?_
          refine EV.iconst (v := nI 3) d_Mo_after_49 (by decide) ?_
          refine EV.icmp_neN (tgt := 59) d_Mo_after_50 (by decide) rfl rfl (by omega) (by omega) (fun h50 => ?_) (fun h50 => ?_)
          · refine EV.iconst (v := nI 2) d_Mo_after_59 (by decide) ?_
            refine EV.iadd d_Mo_after_60 ?_
            refine EV.top (nI_add _ _) ?_
            exact EV.ireturn d_Mo_after_61 ⟨_, rfl, rfl⟩ ⟨by
        first
        | (exfalso; omega)
        | (unfold af
           first
           | (rw [if_pos (by omega)]; first | rw [if_pos (by omega)] | rw [if_neg (by omega)])
           | (rw [if_neg (by omega)]
              first
              | (rw [if_pos ⟨by assumption, by omega⟩]; first | (rw [if_pos (by omega)]; done) | (rw [if_neg (by omega)]; done))
              | (rw [if_neg (fun z => by first | (have := z.2; omega) | (have := z.1; simp_all; done))]
                 first
                 | (rw [if_pos (by assumption)]; first | (rw [if_pos (by omega)]; done) | (rw [if_neg (by omega)]; done))
                 | (rw [if_neg (fun z => by simp_all; done)]
                    first
                    | (rw [if_pos (by omega)]; first | (rw [if_pos (by omega)]; done) | (rw [if_neg (by omega)]; done))
                    | (rw [if_neg (by omega)]
                       first
                       | (rw [if_pos (by omega)]; done)
                       | (rw [if_neg (by omega)]; first | (rw [if_pos (by omega)]; done) | (rw [if_neg (by omega)]; first | (rw [if_pos (by omega)]; done) | (rw [if_neg (by omega)]; done)))))))), rfl⟩
          · refine EV.iload_n d_Mo_after_53 rfl ?_
            refine EV.iconst (v := nI 1) d_Mo_after_54 (by decide) ?_
            refine EV.iadd d_Mo_after_55 ?_
            refine EV.top (y := nI (st % 10 + 1)) (nI_1 _) ?_
            refine EV.goto (tgt := 60) d_Mo_after_56 (by decide) ?_
            refine EV.iadd d_Mo_after_60 ?_
            refine EV.top (nI_add _ _) ?_
            exact EV.ireturn d_Mo_after_61 ⟨_, rfl, rfl⟩ ⟨by
        first
        | (exfalso; omega)
        | (unfold af
           first
           | (rw [if_pos (by omega)]; first | rw [if_pos (by omega)] | rw [if_neg (by omega)])
           | (rw [if_neg (by omega)]
              first
              | (rw [if_pos ⟨by assumption, by omega⟩]; first | (rw [if_pos (by omega)]; done) | (rw [if_neg (by omega)]; done))
              | (rw [if_neg (fun z => by first | (have := z.2; omega) | (have := z.1; simp_all; done))]
                 first
                 | (rw [if_pos (by assumption)]; first | (rw [if_pos (by omega)]; done) | (rw [if_neg (by omega)]; done))
                 | (rw [if_neg (fun z => by simp_all; done)]
                    first
                    | (rw [if_pos (by omega)]; first | (rw [if_pos (by omega)]; done) | (rw [if_neg (by omega)]; done))
                    | (rw [if_neg (by omega)]
                       first
                       | (rw [if_pos (by omega)]; done)
                       | (rw [if_neg (by omega)]; first | (rw [if_pos (by omega)]; done) | (rw [if_neg (by omega)]; first | (rw [if_pos (by omega)]; done) | (rw [if_neg (by omega)]; done)))))))), rfl⟩
  · refine EV.iload_n d_Mo_after_13 rfl ?_
    refine EV.bipush (v := nI 38) d_Mo_after_14 (by decide) ?_
    refine EV.icmp_neN (tgt := 23) d_Mo_after_16 (by decide) rfl rfl (by omega) (by omega) (fun h16 => ?_) (fun h16 => ?_)
    · refine EV.iconst (v := (-1)) d_Mo_after_23 (by decide) ?_
      exact EV.ireturn d_Mo_after_24 ⟨_, rfl, rfl⟩ ⟨by
        first
        | (exfalso; omega)
        | (unfold af
           first
           | (rw [if_pos (by omega)]; first | rw [if_pos (by omega)] | rw [if_neg (by omega)])
           | (rw [if_neg (by omega)]
              first
              | (rw [if_pos ⟨by assumption, by omega⟩]; first | (rw [if_pos (by omega)]; done) | (rw [if_neg (by omega)]; done))
              | (rw [if_neg (fun z => by first | (have := z.2; omega) | (have := z.1; simp_all; done))]
                 first
                 | (rw [if_pos (by assumption)]; first | (rw [if_pos (by omega)]; done) | (rw [if_neg (by omega)]; done))
                 | (rw [if_neg (fun z => by simp_all; done)]
                    first
                    | (rw [if_pos (by omega)]; first | (rw [if_pos (by omega)]; done) | (rw [if_neg (by omega)]; done))
                    | (rw [if_neg (by omega)]
                       first
                       | (rw [if_pos (by omega)]; done)
                       | (rw [if_neg (by omega)]; first | (rw [if_pos (by omega)]; done) | (rw [if_neg (by omega)]; first | (rw [if_pos (by omega)]; done) | (rw [if_neg (by omega)]; done)))))))), rfl⟩
    · refine EV.iconst (v := nI 1) d_Mo_after_19 (by decide) ?_
      refine EV.goto (tgt := 24) d_Mo_after_20 (by decide) ?_
      exact EV.ireturn d_Mo_after_24 ⟨_, rfl, rfl⟩ ⟨by
        first
        | (exfalso; omega)
        | (unfold af
           first
           | (rw [if_pos (by omega)]; first | rw [if_pos (by omega)] | rw [if_neg (by omega)])
           | (rw [if_neg (by omega)]
              first
              | (rw [if_pos ⟨by assumption, by omega⟩]; first | (rw [if_pos (by omega)]; done) | (rw [if_neg (by omega)]; done))
              | (rw [if_neg (fun z => by first | (have := z.2; omega) | (have := z.1; simp_all; done))]
                 first
                 | (rw [if_pos (by assumption)]; first | (rw [if_pos (by omega)]; done) | (rw [if_neg (by omega)]; done))
                 | (rw [if_neg (fun z => by simp_all; done)]
                    first
                    | (rw [if_pos (by omega)]; first | (rw [if_pos (by omega)]; done) | (rw [if_neg (by omega)]; done))
                    | (rw [if_neg (by omega)]
                       first
                       | (rw [if_pos (by omega)]; done)
                       | (rw [if_neg (by omega)]; first | (rw [if_pos (by omega)]; done) | (rw [if_neg (by omega)]; first | (rw [if_pos (by omega)]; done) | (rw [if_neg (by omega)]; done)))))))), rfl⟩
def fa_ans (x : Nat ⊕ ps_T) : Int32 := match x with
  | .inl p => nI p
  | .inr _ => -1
set_option maxHeartbeats 4000000 in
set_option maxRecDepth 100000 in
theorem lp_Mo_fault {G : mx_G} {d : Nat} {S : List mx_Sh} {D : mx_Mem} {xs : List Nat} {R : Int32} (hS : SM S) (hln : D 80 7 = nI xs.length) (har : ar (D 85) xs) (hle : xs.length ≤ 24) (hch : ∀ c ∈ xs, c < 2 ^ 31) : ∀ (m i : Nat) (q : ru_Q), i ≤ xs.length → xs.length - i = m → ru_wf q i → fa_ans (ru_ans xs.length (ru_rd q i (xs.drop i))) = R → EV G (d + 2) m_Mo_fault 4 [some (.ref 80), some (.int (nI (ru_code q))), some (.int (nI i))] [] S D S (RI R D) := by
  obtain ⟨hm0, hm1, hm2, hm3, hm4, hm5, hm6, hm7, hm8, hm9, hm10, hm11, hm12⟩ := id hS
  intro m
  induction m with
  | zero =>
    intro i q h1 h2 hw hX
    obtain ⟨w1, w2, w3, w4, w5, w6, w7, w8⟩ := id hw
    have hcl := ru_code_lt hw
    rw [List.drop_of_length_le (by omega)] at hX
    simp only [ru_rd, ru_ans] at hX
    have hcode : (11 < ru_code q ∧ ru_code q < 15) ↔ (q.1 = 2 ∧ 1 < q.2.2.length) := by
      rcases (show q.1 = 0 ∨ q.1 = 1 ∨ q.1 = 2 by omega) with h0 | h0 | h0
      · simp [ru_code, h0]
      · rcases (show q.2.1 = 0 ∨ q.2.1 = 1 ∨ q.2.1 = 2 ∨ q.2.1 = 3 ∨ q.2.1 = 4 by omega) with z | z | z | z | z <;> simp [ru_code, h0, z]
      · have hb := ru_L_b hw h0
        have hl1 := w5 h0
        by_cases y : q.2.2.length = 1
        · simp [ru_code, h0, y]; omega
        · simp [ru_code, h0, y]; omega
    refine EV.iload_n d_Mo_fault_4 rfl ?_
    refine EV.aload_n d_Mo_fault_5 rfl ?_
    refine EV.getI fl_Mo_53 d_Mo_fault_6 (by first | assumption | rfl) rfl ?_
    refine EV.icmp_geN (tgt := 35) d_Mo_fault_9 (by decide) rfl hln (by omega) (by omega) (fun h9 => ?_) (fun h9 => ?_)
    · refine EV.iload_n d_Mo_fault_35 rfl ?_
      refine EV.bipush (v := nI 11) d_Mo_fault_36 (by decide) ?_
      refine EV.icmp_leN (tgt := 51) d_Mo_fault_38 (by decide) rfl rfl (by omega) (by omega) (fun h38 => ?_) (fun h38 => ?_)
      · refine EV.aload_n d_Mo_fault_51 rfl ?_
        refine EV.getI fl_Mo_53 d_Mo_fault_52 (by first | assumption | rfl) rfl ?_
        refine EV.top hln ?_
        rw [if_neg (fun z => by have := hcode.mpr z; omega)] at hX
        exact EV.ireturn d_Mo_fault_55 ⟨_, rfl, rfl⟩ ⟨by rw [← hX]; rfl, rfl⟩
      · refine EV.iload_n d_Mo_fault_41 rfl ?_
        refine EV.bipush (v := nI 15) d_Mo_fault_42 (by decide) ?_
        refine EV.icmp_geN (tgt := 51) d_Mo_fault_44 (by decide) rfl rfl (by omega) (by omega) (fun h44 => ?_) (fun h44 => ?_)
        · refine EV.aload_n d_Mo_fault_51 rfl ?_
          refine EV.getI fl_Mo_53 d_Mo_fault_52 (by first | assumption | rfl) rfl ?_
          refine EV.top hln ?_
          rw [if_neg (fun z => by have := hcode.mpr z; omega)] at hX
          exact EV.ireturn d_Mo_fault_55 ⟨_, rfl, rfl⟩ ⟨by rw [← hX]; rfl, rfl⟩
        · refine EV.iconst (v := (-1)) d_Mo_fault_47 (by decide) ?_
          refine EV.goto (tgt := 55) d_Mo_fault_48 (by decide) ?_
          rw [if_pos (hcode.mp ⟨h38, h44⟩)] at hX
          exact EV.ireturn d_Mo_fault_55 ⟨_, rfl, rfl⟩ ⟨by rw [← hX]; rfl, rfl⟩
    · exfalso
      omega
  | succ m ih =>
    intro i q h1 h2 hw hX
    have hcl := ru_code_lt hw
    obtain ⟨c, hc⟩ : ∃ c, xs[i]? = some c := ⟨xs[i]'(by omega), List.getElem?_eq_getElem (by omega)⟩
    have hcv := har i c hc
    have hdr : xs.drop i = c :: xs.drop (i + 1) := by rw [List.drop_eq_getElem_cons (by omega), (List.getElem?_eq_some_iff.mp hc).2]
    have haf := af_code (c := c) hw
    rw [hdr] at hX
    simp only [ru_rd] at hX
    refine EV.iload_n d_Mo_fault_4 rfl ?_
    refine EV.aload_n d_Mo_fault_5 rfl ?_
    refine EV.getI fl_Mo_53 d_Mo_fault_6 (by first | assumption | rfl) rfl ?_
    refine EV.icmp_geN (tgt := 35) d_Mo_fault_9 (by decide) rfl hln (by omega) (by omega) (fun h9 => ?_) (fun h9 => ?_)
    · exfalso
      omega
    · refine EV.iload_n d_Mo_fault_12 rfl ?_
      refine EV.aload_n d_Mo_fault_13 rfl ?_
      refine EV.getR fl_Mo_22 d_Mo_fault_14 (by first | assumption | rfl) rfl ?_
      refine EV.iload_n d_Mo_fault_17 rfl ?_
      refine EV.ialdN d_Mo_fault_18 (by first | assumption | rfl) rfl rfl (by omega) (by first | decide | omega) ?_
      refine EV.top hcv ?_
      refine EV.T2 cs_Mo_66 d_Mo_fault_19 (sp_Mo_after hcl (hch c (List.mem_of_getElem? hc))) ⟨Nat.le_refl _, Nat.le_refl _⟩ rfl rfl (Nat.le_of_ble_eq_true rfl) (fun rv D1 hp => ?_)
      obtain ⟨rfl, hD⟩ := hp
      obtain rfl := hD.symm
      cases hg : ru_st q c with
      | none =>
        rw [hg] at haf hX
        dsimp only at haf
        rw [haf]
        refine EV.istore_n d_Mo_fault_22 (by decide) ?_
        refine EV.iload_n d_Mo_fault_23 rfl ?_
        refine EV.if_ge (tgt := 29) d_Mo_fault_24 (by decide) (fun h24 => absurd h24 (by decide)) (fun h24 => ?_)
        refine EV.iload_n d_Mo_fault_27 rfl ?_
        exact EV.ireturn d_Mo_fault_28 ⟨_, rfl, rfl⟩ ⟨by rw [← hX]; rfl, rfl⟩
      | some q' =>
        rw [hg] at haf hX
        dsimp only at haf hX
        have hw2 := ru_st_wf hw hg
        have hcl2 := ru_code_lt hw2
        rw [haf]
        refine EV.istore_n d_Mo_fault_22 (by decide) ?_
        refine EV.iload_n d_Mo_fault_23 rfl ?_
        refine EV.if_ge (tgt := 29) d_Mo_fault_24 (by decide) (fun h24 => ?_) (fun h24 => absurd (nI_pos' (by omega)) h24)
        refine EV.iincN d_Mo_fault_29 rfl (by decide) ?_
        refine EV.goto (tgt := 4) d_Mo_fault_32 (by decide) ?_
        exact ih (i + 1) q' (by omega) (by omega) hw2 hX
set_option maxHeartbeats 4000000 in
set_option maxRecDepth 100000 in
theorem sp_Mo_fault {G : mx_G} {d : Nat} {S : List mx_Sh} {D : mx_Mem} {xs : List Nat} (hS : SM S) (hln : D 80 7 = nI xs.length) (har : ar (D 85) xs) (hle : xs.length ≤ 24) (hch : ∀ c ∈ xs, c < 2 ^ 31) : EV G (d + 2) m_Mo_fault 0 (mx_lc0 m_Mo_fault [.ref 80]) [] S D S (RI (fa_ans (ru_ans xs.length (ru_rd (0, 0, []) 0 xs))) D) := by
  show EV _ _ _ _ [some (.ref 80), none, none] [] _ _ _ _
  refine EV.iconst (v := nI 0) d_Mo_fault_0 (by decide) ?_
  refine EV.istore_n d_Mo_fault_1 (by decide) ?_
  refine EV.iconst (v := nI 0) d_Mo_fault_2 (by decide) ?_
  refine EV.istore_n d_Mo_fault_3 (by decide) ?_
  exact lp_Mo_fault hS hln har hle hch xs.length 0 (0, 0, []) (by omega) rfl ⟨by decide, by decide, by decide, fun e he => (by cases he), fun h => absurd h (by decide), fun _ => rfl, fun h => absurd h (by decide), fun i e _ he => (by cases he)⟩ rfl
