def FrF (f : Nat) (D D' : mx_Mem) : Prop := ∀ q, (q < f ∨ f + 43 < q) → D' q = D q
/-- a filed text -/
def ps_t12 (xs : List Nat) : Prop := xs.length ≤ 12 ∧ ∀ c ∈ xs, c < 65536
theorem LN_kept {D D' : mx_Mem} {k : Nat} {xs : List Nat} (h : LN D k xs) (h0 : D' k = D k) (h1 : D' (k + 1) = D (k + 1)) : LN D' k xs := by
  unfold LN
  rw [h0, h1]
  exact h
set_option maxHeartbeats 4000000 in
set_option maxRecDepth 100000 in
theorem sp_Fo_add {G : mx_G} {d : Nat} {S : List mx_Sh} {D : mx_Mem} {f o nx : Nat} {fl : ps_F} {xs : List Nat} (hF : ShF S f) (hFO : FO D f fl) (hl : fl.length ≤ 10) (hnx : D f 4 = nI nx) (hO : ShL S o 12) (hof : o + 1 < f) (hX : LN D o xs) (hx : ps_t12 xs) : EV G (d + 2) m_Fo_add 0 (mx_lc0 m_Fo_add [.ref f, .ref o]) [] S D S (fun rv D' => FrF f D D' ∧ rv = some (.int (if fl.length < 10 then nI nx else -1)) ∧ FO D' f (if fl.length < 10 then fl ++ [(nx, xs)] else fl) ∧ D' f 4 = nI (if fl.length < 10 then nx + 1 else nx)) := by
  obtain ⟨hf0, hf1, hf2, hf3, hf4⟩ := id hF
  show EV _ _ _ _ [some (.ref f), some (.ref o), none] [] _ _ _ _
  refine EV.aload_n d_Fo_add_0 rfl ?_
  refine EV.getI fl_Fo_31 d_Fo_add_1 (by first | assumption | rfl) rfl ?_
  refine EV.bipush (v := nI 10) d_Fo_add_4 (by decide) ?_
  refine EV.icmp_ltN (tgt := 11) d_Fo_add_6 (by decide) hFO.1 rfl (by omega) (by omega) (fun h6 => ?_) (fun h6 => ?_)
  · rw [if_pos h6, if_pos h6, if_pos h6]
    have hsl := (hf4 fl.length h6).1
    obtain ⟨hl0, hl1⟩ := id hsl
    obtain ⟨zs, hzs⟩ := hFO.2.2 fl.length h6
    refine EV.aload_n d_Fo_add_11 rfl ?_
    refine EV.getI fl_Fo_35 d_Fo_add_12 (by first | assumption | rfl) rfl ?_
    refine EV.top hnx ?_
    refine EV.istore_n d_Fo_add_15 (by decide) ?_
    refine EV.aload_n d_Fo_add_16 rfl ?_
    refine EV.dup d_Fo_add_17 rfl ?_
    refine EV.getI fl_Fo_35 d_Fo_add_18 (by first | assumption | rfl) rfl ?_
    refine EV.iconst (v := nI 1) d_Fo_add_21 (by decide) ?_
    refine EV.iadd d_Fo_add_22 ?_
    refine EV.top (y := nI (nx + 1)) (by rw [hnx]; exact nI_1 nx) ?_
    refine EV.putI fl_Fo_35 d_Fo_add_23 (by first | assumption | rfl) rfl rfl rfl ?_
    refine EV.aload_n d_Fo_add_26 rfl ?_
    refine EV.getR fl_Fo_11 d_Fo_add_27 (by first | assumption | rfl) rfl ?_
    refine EV.aload_n d_Fo_add_30 rfl ?_
    refine EV.getI fl_Fo_31 d_Fo_add_31 (by first | assumption | rfl) rfl ?_
    refine EV.aaldN d_Fo_add_34 (by first | assumption | rfl) rfl rfl (by simp [mx_w, va_up, upd]; exact hFO.1) (by omega) (ShF_t h6) ?_
    refine EV.aload_n d_Fo_add_35 rfl ?_
    refine EV.V1 cv_Fo_38 d_Fo_add_36 (by first | assumption | rfl) (sp_Li_copyFrom (xs := zs) (ys := xs) hsl hO (by omega) (LN_kept hzs (mx_w_ne _ _ _ (by omega)) (mx_w_ne _ _ _ (by omega))) (LN_kept hX (mx_w_ne _ _ _ (by omega)) (mx_w_ne _ _ _ (by omega))) hx.1 hx.1 (by omega) (by omega) hx.2) ⟨Nat.le_refl _, Nat.le_refl _⟩ rfl rfl (Nat.le_of_ble_eq_true rfl) (fun rv D1 hp => ?_)
    obtain ⟨rfl, q1, q2⟩ := hp
    have hf3' : D1 f 3 = nI fl.length := by rw [q1 f (by omega) (by omega)]; simp [mx_w, va_up, upd]; exact hFO.1
    refine EV.aload_n d_Fo_add_39 rfl ?_
    refine EV.getR fl_Fo_17 d_Fo_add_40 (by first | assumption | rfl) rfl ?_
    refine EV.aload_n d_Fo_add_43 rfl ?_
    refine EV.getI fl_Fo_31 d_Fo_add_44 (by first | assumption | rfl) rfl ?_
    refine EV.iload_n d_Fo_add_47 rfl ?_
    refine EV.iastN d_Fo_add_48 (by first | assumption | rfl) rfl hf3' (by omega) (by first | decide | omega) ?_
    refine EV.aload_n d_Fo_add_49 rfl ?_
    refine EV.dup d_Fo_add_50 rfl ?_
    refine EV.getI fl_Fo_31 d_Fo_add_51 (by first | assumption | rfl) rfl ?_
    refine EV.iconst (v := nI 1) d_Fo_add_54 (by decide) ?_
    refine EV.iadd d_Fo_add_55 ?_
    refine EV.top (y := nI (fl.length + 1)) (by rw [mx_w_ne _ _ _ (by omega), hf3']; exact nI_1 _) ?_
    refine EV.putI fl_Fo_31 d_Fo_add_56 (by first | assumption | rfl) rfl rfl rfl ?_
    refine EV.iload_n d_Fo_add_59 rfl ?_
    refine EV.ireturn d_Fo_add_60 ⟨_, rfl, rfl⟩ ⟨fun q hq => by
        rw [mx_w_ne _ _ _ (by omega), mx_w_ne _ _ _ (by omega), q1 q (by omega) (by omega), mx_w_ne _ _ _ (by omega)], rfl, ⟨by rw [mx_w_eq]; simp [upd], fun i e he => ?_, fun i hi => ?_⟩, by rw [mx_w_eq, mx_w_ne _ _ _ (by omega), q1 f (by omega) (by omega), mx_w_eq]; simp [upd]⟩
    · by_cases q : i = fl.length
      · subst q
        simp at he
        subst he
        refine ⟨by rw [mx_w_ne _ _ _ (by omega), mx_w_eq]; simp [upd], LN_kept q2 ?_ ?_⟩
        · rw [mx_w_ne _ _ _ (by omega), mx_w_ne _ _ _ (by omega)]
        · rw [mx_w_ne _ _ _ (by omega), mx_w_ne _ _ _ (by omega)]
      · have hil : i < fl.length := by
          have := (List.getElem?_eq_some_iff.mp he).1
          rw [List.length_append, List.length_singleton] at this
          omega
        rw [List.getElem?_append_left hil] at he
        obtain ⟨z1, z2⟩ := hFO.2.1 i e he
        refine ⟨?_, LN_kept z2 ?_ ?_⟩
        · rw [mx_w_ne _ _ _ (by omega), mx_w_eq, q1 (f + 2) (by omega) (by omega), mx_w_ne _ _ _ (by omega)]
          unfold upd
          rw [if_neg q]
          exact z1
        · rw [mx_w_ne _ _ _ (by omega), mx_w_ne _ _ _ (by omega), q1 _ (by omega) (by omega), mx_w_ne _ _ _ (by omega)]
        · rw [mx_w_ne _ _ _ (by omega), mx_w_ne _ _ _ (by omega), q1 _ (by omega) (by omega), mx_w_ne _ _ _ (by omega)]
    · by_cases q : i = fl.length
      · subst q
        refine ⟨xs, LN_kept q2 ?_ ?_⟩
        · rw [mx_w_ne _ _ _ (by omega), mx_w_ne _ _ _ (by omega)]
        · rw [mx_w_ne _ _ _ (by omega), mx_w_ne _ _ _ (by omega)]
      · obtain ⟨us, hus⟩ := hFO.2.2 i hi
        refine ⟨us, LN_kept hus ?_ ?_⟩
        · rw [mx_w_ne _ _ _ (by omega), mx_w_ne _ _ _ (by omega), q1 _ (by omega) (by omega), mx_w_ne _ _ _ (by omega)]
        · rw [mx_w_ne _ _ _ (by omega), mx_w_ne _ _ _ (by omega), q1 _ (by omega) (by omega), mx_w_ne _ _ _ (by omega)]
  · rw [if_neg (by omega), if_neg (by omega), if_neg (by omega)]
    refine EV.iconst (v := (-1)) d_Fo_add_9 (by decide) ?_
    exact EV.ireturn d_Fo_add_10 ⟨_, rfl, rfl⟩ ⟨fun _ _ => rfl, rfl, hFO, hnx⟩
set_option maxHeartbeats 4000000 in
set_option maxRecDepth 100000 in
theorem lp_Fo_closeUp {G : mx_G} {d : Nat} {S : List mx_Sh} {D0 : mx_Mem} {f g : Nat} {fl : ps_F} (hF : ShF S f) (hl : fl.length ≤ 10) (hg : g < fl.length) (hx : ∀ e ∈ fl, ps_t12 e.2) : ∀ (n i : Nat) (D : mx_Mem), g < i → i ≤ fl.length → fl.length - i = n → FrF f D0 D → D f 4 = D0 f 4 → D f 3 = nI fl.length → (∀ j e, j < fl.length → fl[(if g ≤ j ∧ j + 1 < i then j + 1 else j)]? = some e → D (f + 2) j = nI e.1 ∧ LN D (f + 4 + 4 * j) e.2) → (∀ j, j < 10 → ∃ zs : List Nat, LN D (f + 4 + 4 * j) zs) → EV G (d + 2) m_Fo_closeUp 4 [some (.ref f), some (.int (nI g)), some (.int (nI i))] [] S D S (fun rv D' => rv = none ∧ FrF f D0 D' ∧ D' f 4 = D0 f 4 ∧ FO D' f (fl.eraseIdx g)) := by
  obtain ⟨hf0, hf1, hf2, hf3, hf4⟩ := id hF
  intro n
  induction n with
  | zero =>
    intro i D h0 h1 h2 hR h4 h3 hA hZ
    refine EV.iload_n d_Fo_closeUp_4 rfl ?_
    refine EV.aload_n d_Fo_closeUp_5 rfl ?_
    refine EV.getI fl_Fo_31 d_Fo_closeUp_6 (by first | assumption | rfl) rfl ?_
    refine EV.icmp_geN (tgt := 49) d_Fo_closeUp_9 (by decide) rfl h3 (by omega) (by omega) (fun h9 => ?_) (fun h9 => ?_)
    · refine EV.aload_n d_Fo_closeUp_49 rfl ?_
      refine EV.dup d_Fo_closeUp_50 rfl ?_
      refine EV.getI fl_Fo_31 d_Fo_closeUp_51 (by first | assumption | rfl) rfl ?_
      refine EV.iconst (v := nI 1) d_Fo_closeUp_54 (by decide) ?_
      refine EV.isub d_Fo_closeUp_55 ?_
      refine EV.top (y := nI (fl.length - 1)) (by rw [h3]; exact pk_sub (by omega)) ?_
      refine EV.putI fl_Fo_31 d_Fo_closeUp_56 (by first | assumption | rfl) rfl rfl rfl ?_
      refine EV.return_ d_Fo_closeUp_59 rfl ⟨rfl, fun q hq => by rw [mx_w_ne _ _ _ (by omega)]; exact hR q hq, by rw [mx_w_eq]; simp [upd]; exact h4, ⟨by rw [mx_w_eq, List.length_eraseIdx, if_pos hg]; simp [upd], fun j e he => ?_, fun j hj => ?_⟩⟩
      · have hjl : j < fl.length - 1 := by
          have := (List.getElem?_eq_some_iff.mp he).1
          rw [List.length_eraseIdx, if_pos hg] at this
          exact this
        rw [List.getElem?_eraseIdx] at he
        obtain ⟨z1, z2⟩ := hA j e (by omega) (by
          by_cases q : j < g
          · rw [if_pos q] at he
            rw [if_neg (by omega)]
            exact he
          · rw [if_neg q] at he
            rw [if_pos (by omega)]
            exact he)
        exact ⟨by rw [mx_w_ne _ _ _ (by omega)]; exact z1, LN_kept z2 (mx_w_ne _ _ _ (by omega)) (mx_w_ne _ _ _ (by omega))⟩
      · obtain ⟨zs, hz⟩ := hZ j hj
        exact ⟨zs, LN_kept hz (mx_w_ne _ _ _ (by omega)) (mx_w_ne _ _ _ (by omega))⟩
    · exfalso
      omega
  | succ n ih =>
    intro i D h0 h1 h2 hR h4 h3 hA hZ
    obtain ⟨e, he⟩ : ∃ e, fl[i]? = some e := ⟨fl[i]'(by omega), List.getElem?_eq_getElem (by omega)⟩
    obtain ⟨z1, z2⟩ := hA i e (by omega) (by rw [if_neg (by omega)]; exact he)
    obtain ⟨i, rfl⟩ : ∃ i', i = i' + 1 := ⟨i - 1, by omega⟩
    obtain ⟨us, hus⟩ := hZ i (by omega)
    have hsa := (hf4 i (by omega)).1
    have hsb := (hf4 (i + 1) (by omega)).1
    obtain ⟨ha0, ha1⟩ := id hsa
    obtain ⟨hb0, hb1⟩ := id hsb
    have hex := hx e (List.mem_of_getElem? he)
    refine EV.iload_n d_Fo_closeUp_4 rfl ?_
    refine EV.aload_n d_Fo_closeUp_5 rfl ?_
    refine EV.getI fl_Fo_31 d_Fo_closeUp_6 (by first | assumption | rfl) rfl ?_
    refine EV.icmp_geN (tgt := 49) d_Fo_closeUp_9 (by decide) rfl h3 (by omega) (by omega) (fun h9 => ?_) (fun h9 => ?_)
    · exfalso
      omega
    · refine EV.aload_n d_Fo_closeUp_12 rfl ?_
      refine EV.getR fl_Fo_17 d_Fo_closeUp_13 (by first | assumption | rfl) rfl ?_
      refine EV.iload_n d_Fo_closeUp_16 rfl ?_
      refine EV.iconst (v := nI 1) d_Fo_closeUp_17 (by decide) ?_
      refine EV.isub d_Fo_closeUp_18 ?_
      refine EV.aload_n d_Fo_closeUp_19 rfl ?_
      refine EV.getR fl_Fo_17 d_Fo_closeUp_20 (by first | assumption | rfl) rfl ?_
      refine EV.iload_n d_Fo_closeUp_23 rfl ?_
      refine EV.ialdN d_Fo_closeUp_24 (by first | assumption | rfl) rfl rfl (by omega) (by first | decide | omega) ?_
      refine EV.top z1 ?_
      refine EV.iastN d_Fo_closeUp_25 (by first | assumption | rfl) rfl (show _ = nI i from nI_pred i) (by omega) (by first | decide | omega) ?_
      refine EV.aload_n d_Fo_closeUp_26 rfl ?_
      refine EV.getR fl_Fo_11 d_Fo_closeUp_27 (by first | assumption | rfl) rfl ?_
      refine EV.iload_n d_Fo_closeUp_30 rfl ?_
      refine EV.iconst (v := nI 1) d_Fo_closeUp_31 (by decide) ?_
      refine EV.isub d_Fo_closeUp_32 ?_
      refine EV.aaldN d_Fo_closeUp_33 (by first | assumption | rfl) rfl rfl (show _ = nI i from nI_pred i) (by omega) (ShF_t (by omega)) ?_
      refine EV.aload_n d_Fo_closeUp_34 rfl ?_
      refine EV.getR fl_Fo_11 d_Fo_closeUp_35 (by first | assumption | rfl) rfl ?_
      refine EV.iload_n d_Fo_closeUp_38 rfl ?_
      refine EV.aaldN d_Fo_closeUp_39 (by first | assumption | rfl) rfl rfl rfl (by omega) (ShF_t (by omega)) ?_
      refine EV.V1 cv_Fo_38 d_Fo_closeUp_40 (by first | assumption | rfl) (sp_Li_copyFrom (xs := us) (ys := e.2) hsa hsb (by omega) (LN_kept hus (mx_w_ne _ _ _ (by omega)) (mx_w_ne _ _ _ (by omega))) (LN_kept z2 (mx_w_ne _ _ _ (by omega)) (mx_w_ne _ _ _ (by omega))) hex.1 hex.1 (by omega) (by omega) hex.2) ⟨Nat.le_refl _, Nat.le_refl _⟩ rfl rfl (Nat.le_of_ble_eq_true rfl) (fun rv D1 hp => ?_)
      obtain ⟨rfl, q1, q2⟩ := hp
      refine EV.iincN d_Fo_closeUp_43 rfl (by decide) ?_
      refine EV.goto (tgt := 4) d_Fo_closeUp_46 (by decide) ?_
      refine ih (i + 1 + 1) D1 (by omega) (by omega) (by omega) ?_ ?_ ?_ ?_ ?_
      · intro q hq
        rw [q1 q (by omega) (by omega), mx_w_ne _ _ _ (by omega)]
        exact hR q hq
      · rw [q1 f (by omega) (by omega), mx_w_ne _ _ _ (by omega)]; exact h4
      · rw [q1 f (by omega) (by omega), mx_w_ne _ _ _ (by omega)]; exact h3
      · intro j x hj hx2
        by_cases q : j = i
        · subst q
          rw [if_pos (by omega), he] at hx2
          cases hx2
          refine ⟨?_, q2⟩
          rw [q1 (f + 2) (by omega) (by omega), mx_w_eq]
          simp [upd]
        · obtain ⟨y1, y2⟩ := hA j x hj (by
            by_cases w : g ≤ j ∧ j + 1 < i + 1
            · rw [if_pos w]
              rw [if_pos (by omega)] at hx2
              exact hx2
            · rw [if_neg w]
              rw [if_neg (by omega)] at hx2
              exact hx2)
          refine ⟨?_, LN_kept y2 ?_ ?_⟩
          · rw [q1 (f + 2) (by omega) (by omega), mx_w_eq]
            unfold upd
            rw [if_neg q]
            exact y1
          · rw [q1 _ (by omega) (by omega), mx_w_ne _ _ _ (by omega)]
          · rw [q1 _ (by omega) (by omega), mx_w_ne _ _ _ (by omega)]
      · intro j hj
        by_cases q : j = i
        · subst q
          exact ⟨e.2, q2⟩
        · obtain ⟨zs, hz⟩ := hZ j hj
          refine ⟨zs, LN_kept hz ?_ ?_⟩
          · rw [q1 _ (by omega) (by omega), mx_w_ne _ _ _ (by omega)]
          · rw [q1 _ (by omega) (by omega), mx_w_ne _ _ _ (by omega)]
set_option maxHeartbeats 4000000 in
set_option maxRecDepth 100000 in
theorem sp_Fo_closeUp {G : mx_G} {d : Nat} {S : List mx_Sh} {D0 : mx_Mem} {f g : Nat} {fl : ps_F} (hF : ShF S f) (hFO : FO D0 f fl) (hl : fl.length ≤ 10) (hg : g < fl.length) (hx : ∀ e ∈ fl, ps_t12 e.2) : EV G (d + 2) m_Fo_closeUp 0 (mx_lc0 m_Fo_closeUp [.ref f, .int (nI g)]) [] S D0 S (fun rv D' => rv = none ∧ FrF f D0 D' ∧ D' f 4 = D0 f 4 ∧ FO D' f (fl.eraseIdx g)) := by
  show EV _ _ _ _ [some (.ref f), some (.int (nI g)), none] [] _ _ _ _
  refine EV.iload_n d_Fo_closeUp_0 rfl ?_
  refine EV.iconst (v := nI 1) d_Fo_closeUp_1 (by decide) ?_
  refine EV.iadd d_Fo_closeUp_2 ?_
  refine EV.top (nI_1 g) ?_
  refine EV.istore_n d_Fo_closeUp_3 (by decide) ?_
  exact lp_Fo_closeUp hF hl hg hx (fl.length - (g + 1)) (g + 1) D0 (by omega) (by omega) rfl (fun _ _ => rfl) rfl hFO.1 (fun j e hj he => by rw [if_neg (by omega)] at he; exact hFO.2.1 j e he) hFO.2.2
set_option maxHeartbeats 4000000 in
set_option maxRecDepth 100000 in
theorem lp_Fo_remove {G : mx_G} {d : Nat} {S : List mx_Sh} {D : mx_Mem} {f : Nat} {fl : ps_F} {x : Int32} (hF : ShF S f) (hFO : FO D f fl) (hl : fl.length ≤ 10) (hx : ∀ e ∈ fl, ps_t12 e.2) : ∀ n i : Nat, i ≤ fl.length → fl.length - i = n → (∀ (j : Nat) (u : Nat × List Nat), j < i → fl[j]? = some u → ¬ nI u.1 = x) → EV G (d + 3) m_Fo_remove 2 [some (.ref f), some (.int x), some (.int (nI i))] [] S D S (fun rv D' => FrF f D D' ∧ D' f 4 = D f 4 ∧ ((∃ (i : Nat) (e : Nat × List Nat), fl[i]? = some e ∧ nI e.1 = x ∧ (∀ (j : Nat) (u : Nat × List Nat), j < i → fl[j]? = some u → ¬ nI u.1 = x) ∧ rv = some (.int (nI 1)) ∧ FO D' f (fl.eraseIdx i)) ∨ ((∀ (j : Nat) (u : Nat × List Nat), fl[j]? = some u → ¬ nI u.1 = x) ∧ rv = some (.int (nI 0)) ∧ FO D' f fl))) := by
  obtain ⟨hf0, hf1, hf2, hf3, hf4⟩ := id hF
  have hc := hFO.1
  intro n
  induction n with
  | zero =>
    intro i h1 h2 h3
    refine EV.iload_n d_Fo_remove_2 rfl ?_
    refine EV.aload_n d_Fo_remove_3 rfl ?_
    refine EV.getI fl_Fo_31 d_Fo_remove_4 (by first | assumption | rfl) rfl ?_
    refine EV.icmp_geN (tgt := 33) d_Fo_remove_7 (by decide) rfl hc (by omega) (by omega) (fun h7 => ?_) (fun h7 => ?_)
    · refine EV.iconst (v := nI 0) d_Fo_remove_33 (by decide) ?_
      exact EV.ireturn d_Fo_remove_34 ⟨_, rfl, rfl⟩ ⟨fun _ _ => rfl, rfl, Or.inr ⟨fun j u hu => h3 j u (by have := (List.getElem?_eq_some_iff.mp hu).1; omega) hu, rfl, hFO⟩⟩
    · exfalso
      omega
  | succ n ih =>
    intro i h1 h2 h3
    obtain ⟨e, he⟩ : ∃ e, fl[i]? = some e := ⟨fl[i]'(by omega), List.getElem?_eq_getElem (by omega)⟩
    refine EV.iload_n d_Fo_remove_2 rfl ?_
    refine EV.aload_n d_Fo_remove_3 rfl ?_
    refine EV.getI fl_Fo_31 d_Fo_remove_4 (by first | assumption | rfl) rfl ?_
    refine EV.icmp_geN (tgt := 33) d_Fo_remove_7 (by decide) rfl hc (by omega) (by omega) (fun h7 => ?_) (fun h7 => ?_)
    · exfalso
      omega
    · refine EV.aload_n d_Fo_remove_10 rfl ?_
      refine EV.getR fl_Fo_17 d_Fo_remove_11 (by first | assumption | rfl) rfl ?_
      refine EV.iload_n d_Fo_remove_14 rfl ?_
      refine EV.ialdN d_Fo_remove_15 (by first | assumption | rfl) rfl rfl (by omega) (by first | decide | omega) ?_
      refine EV.top (hFO.2.1 i e he).1 ?_
      refine EV.iload_n d_Fo_remove_16 rfl ?_
      refine EV.icmp_ne (tgt := 27) d_Fo_remove_17 (by decide) (fun h17 => ?_) (fun h17 => ?_)
      · refine EV.iincN d_Fo_remove_27 rfl (by decide) ?_
        refine EV.goto (tgt := 2) d_Fo_remove_30 (by decide) ?_
        exact ih (i + 1) (by omega) (by omega) (fun j u hj hu => by
          rcases Nat.lt_or_ge j i with q | q
          · exact h3 j u q hu
          · rw [show j = i by omega, he] at hu
            cases hu
            exact h17)
      · refine EV.aload_n d_Fo_remove_20 rfl ?_
        refine EV.iload_n d_Fo_remove_21 rfl ?_
        refine EV.V1 cv_Fo_42 d_Fo_remove_22 (by first | assumption | rfl) (sp_Fo_closeUp hF hFO hl (by omega) hx) ⟨Nat.le_refl _, Nat.le_refl _⟩ rfl rfl (Nat.le_of_ble_eq_true rfl) (fun rv D1 hp => ?_)
        obtain ⟨rfl, q1, q2, q3⟩ := hp
        refine EV.iconst (v := nI 1) d_Fo_remove_25 (by decide) ?_
        exact EV.ireturn d_Fo_remove_26 ⟨_, rfl, rfl⟩ ⟨q1, q2, Or.inl ⟨i, e, he, h17, h3, rfl, q3⟩⟩
set_option maxHeartbeats 4000000 in
set_option maxRecDepth 100000 in
theorem sp_Fo_remove {G : mx_G} {d : Nat} {S : List mx_Sh} {D : mx_Mem} {f : Nat} {fl : ps_F} {x : Int32} (hF : ShF S f) (hFO : FO D f fl) (hl : fl.length ≤ 10) (hx : ∀ e ∈ fl, ps_t12 e.2) : EV G (d + 3) m_Fo_remove 0 (mx_lc0 m_Fo_remove [.ref f, .int x]) [] S D S (fun rv D' => FrF f D D' ∧ D' f 4 = D f 4 ∧ ((∃ (i : Nat) (e : Nat × List Nat), fl[i]? = some e ∧ nI e.1 = x ∧ (∀ (j : Nat) (u : Nat × List Nat), j < i → fl[j]? = some u → ¬ nI u.1 = x) ∧ rv = some (.int (nI 1)) ∧ FO D' f (fl.eraseIdx i)) ∨ ((∀ (j : Nat) (u : Nat × List Nat), fl[j]? = some u → ¬ nI u.1 = x) ∧ rv = some (.int (nI 0)) ∧ FO D' f fl))) := by
  show EV _ _ _ _ [some (.ref f), some (.int x), none] [] _ _ _ _
  refine EV.iconst (v := nI 0) d_Fo_remove_0 (by decide) ?_
  refine EV.istore_n d_Fo_remove_1 (by decide) ?_
  exact lp_Fo_remove hF hFO hl hx fl.length 0 (by omega) rfl (fun j u hj => absurd hj (by omega))
