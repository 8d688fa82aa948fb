theorem MI_fr {D D' : mx_Mem} {σ : sg} {t : Nat} (h : MI D σ) (g : FrW t D D') : MI D' σ := by
  refine MI_kept h (fun j hj => g.1.2 j (by omega) (by omega) (by omega)) ?_ ?_ ?_ ?_ ?_ ?_ <;> exact g.1.1 _ (by omega) (by omega) (by omega) (by omega) (by omega)
theorem MI_TC {D : mx_Mem} {σ : sg} (h : MI D σ) (hI : SI σ) : TC D σ.2.1 σ.2.2.1.2.1 := ⟨⟨h.2.2.1.1, h.2.2.1.2⟩, h.2.2.2.1.2.1, hI.2.2.1⟩
theorem KZ_fr {D D' : mx_Mem} {t u : Nat} {ys : List Nat} (h : KZ D u ys) (g : FrW t D D') (hne : ¬ u = t) : KZ D' u ys := by
  refine ⟨⟨by rw [g.2.2 u hne]; exact h.1.1, fun j w hw => ?_⟩, h.2⟩
  have hl := (List.getElem?_eq_some_iff.mp hw).1
  have := h.2.1
  rw [g.2.1 _ (by omega)]
  exact h.1.2 j w hw
theorem cmp_val : ∀ a b : List Nat, ps_cmp a b = nI 0 ∨ ps_cmp a b = -1 ∨ ps_cmp a b = nI 1 := by
  intro a
  induction a with
  | nil => intro b; left; cases b <;> rfl
  | cons x a ih =>
    intro b
    cases b with
    | nil => left; rfl
    | cons y b =>
      simp only [ps_cmp]
      split
      · exact ih b
      · split
        · exact Or.inr (Or.inl rfl)
        · exact Or.inr (Or.inr rfl)
theorem cmp_self : ∀ a : List Nat, ps_cmp a a = nI 0 := by
  intro a
  induction a with
  | nil => rfl
  | cons x a ih => simp only [ps_cmp, if_true]; exact ih
theorem cmp_sym : ∀ a b : List Nat, ps_cmp a b = nI 1 → ps_cmp b a = -1 := by
  intro a
  induction a with
  | nil => intro b h; exact absurd (show (nI 0 : Int32) = nI 1 by cases b <;> exact h) (by decide)
  | cons x a ih =>
    intro b h
    cases b with
    | nil => exact absurd (show (nI 0 : Int32) = nI 1 from h) (by decide)
    | cons y b =>
      simp only [ps_cmp] at h ⊢
      by_cases hx : x = y
      · rw [if_pos hx] at h
        rw [if_pos hx.symm]
        exact ih b h
      · rw [if_neg hx] at h
        rw [if_neg (fun q => hx q.symm)]
        by_cases h2 : x < y
        · rw [if_pos h2] at h; exact absurd h (by decide)
        · rw [if_pos (by omega)]
theorem cmp_trans : ∀ a b c : List Nat, ps_cmp a b = -1 → ps_cmp b c = -1 → ps_cmp a c = -1 := by
  intro a
  induction a with
  | nil => intro b c h; exact absurd (show (nI 0 : Int32) = -1 by cases b <;> exact h) (by decide)
  | cons x a ih =>
    intro b c h1 h2
    cases b with
    | nil => exact absurd (show (nI 0 : Int32) = -1 from h1) (by decide)
    | cons y b =>
      cases c with
      | nil => exact absurd (show (nI 0 : Int32) = -1 from h2) (by decide)
      | cons z c =>
        simp only [ps_cmp] at h1 h2 ⊢
        by_cases hxy : x = y
        · rw [if_pos hxy] at h1
          by_cases hyz : y = z
          · rw [if_pos hyz] at h2
            rw [if_pos (by omega)]
            exact ih b c h1 h2
          · rw [if_neg hyz] at h2
            by_cases h3 : y < z
            · rw [if_neg (by omega), if_pos (by omega)]
            · rw [if_neg h3] at h2; exact absurd h2 (by decide)
        · rw [if_neg hxy] at h1
          by_cases h3 : x < y
          · by_cases hyz : y = z
            · rw [if_neg (by omega), if_pos (by omega)]
            · rw [if_neg hyz] at h2
              by_cases h4 : y < z
              · rw [if_neg (by omega), if_pos (by omega)]
              · rw [if_neg h4] at h2; exact absurd h2 (by decide)
          · rw [if_neg h3] at h1; exact absurd h1 (by decide)
/-- keys with the same number of ends, each ending with one, are the same where neither is before the other -/
def ps_ze (l : List Nat) : Nat := (l.filter (fun w => decide (w = 0))).length
def ps_kz (n : Nat) (l : List Nat) : Prop := ps_ze l = n ∧ ∀ k, k < l.length → 0 < ps_ze (l.drop k)
theorem cmp_eq : ∀ (a b : List Nat) (n : Nat), ps_kz n a → ps_kz n b → ps_cmp a b = nI 0 → a = b := by
  intro a
  induction a with
  | nil =>
    intro b n h1 h2 _
    cases b with
    | nil => rfl
    | cons y b =>
      have := h2.2 0 (by simp)
      rw [List.drop_zero, h2.1, ← h1.1] at this
      simp [ps_ze] at this
  | cons x a ih =>
    intro b n h1 h2 h
    cases b with
    | nil =>
      have := h1.2 0 (by simp)
      rw [List.drop_zero, h1.1, ← h2.1] at this
      simp [ps_ze] at this
    | cons y b =>
      simp only [ps_cmp] at h
      by_cases hx : x = y
      · rw [if_pos hx] at h
        subst hx
        have e : ∀ l : List Nat, ps_ze (x :: l) = ps_ze l + (if x = 0 then 1 else 0) := fun l => by
          unfold ps_ze
          by_cases hx : x = 0 <;> simp [hx]
        have k1 : ps_kz (ps_ze a) a := ⟨rfl, fun k hk => by have := h1.2 (k + 1) (by simp; omega); simpa using this⟩
        have k2 : ps_kz (ps_ze a) b := ⟨by
          have q1 := h1.1
          have q2 := h2.1
          rw [e] at q1 q2
          omega, fun k hk => by have := h2.2 (k + 1) (by simp; omega); simpa using this⟩
        rw [ih b _ k1 k2 h]
      · rw [if_neg hx] at h
        split at h <;> exact absurd h (by decide)
theorem ps_ze_app (a b : List Nat) : ps_ze (a ++ b) = ps_ze a + ps_ze b := by simp [ps_ze]
theorem ps_kz_key (bw : Bool) (es : List ps_E) : ∀ n, ps_kz n (ps_key bw es n) := by
  have hr : ∀ k, ps_ze (ps_row bw es k) = 1 := fun k => by
    rw [ps_row_fl, ps_ze_app]
    have h0 : ps_ze (ps_nz k es) = 0 := by
      unfold ps_ze ps_nz
      rw [List.filter_filter]
      simp
    have h1 : ps_ze (ps_nz k es).reverse = 0 := by
      unfold ps_ze at h0 ⊢
      rw [List.filter_reverse, List.length_reverse]
      exact h0
    have h2 : ps_ze [0] = 1 := rfl
    split
    · rw [h1, h2]
    · rw [h0, h2]
  intro n
  induction n with
  | zero => exact ⟨rfl, fun k hk => by simp [ps_key] at hk⟩
  | succ n ih =>
    refine ⟨by rw [ps_key, ps_ze_app, ih.1, hr], fun k hk => ?_⟩
    rw [ps_key, ps_row_fl] at hk ⊢
    rw [← List.append_assoc] at hk ⊢
    rw [List.length_append, List.length_singleton] at hk
    rw [List.drop_append_of_le_length (by omega), ps_ze_app]
    have h2 : ps_ze [0] = 1 := rfl
    omega
/-! counting -/
def cnt (f : Nat → Bool) : Nat → Nat
  | 0 => 0
  | n + 1 => cnt f n + if f n = true then 1 else 0
theorem cnt_le {f g : Nat → Bool} : ∀ n, (∀ u, u < n → f u = true → g u = true) → cnt f n ≤ cnt g n := by
  intro n
  induction n with
  | zero => intro _; exact Nat.le_refl _
  | succ n ih =>
    intro h
    have h1 := ih (fun u hu => h u (by omega))
    have h2 := h n (by omega)
    simp only [cnt]
    by_cases hf : f n = true
    · rw [if_pos hf, if_pos (h2 hf)]; omega
    · rw [if_neg hf]; omega
theorem cnt_lt {f g : Nat → Bool} {i : Nat} : ∀ n, (∀ u, u < n → f u = true → g u = true) → i < n → f i = false → g i = true → cnt f n < cnt g n := by
  intro n
  induction n with
  | zero => intro _ h; omega
  | succ n ih =>
    intro h hi h1 h2
    simp only [cnt]
    by_cases hn : i = n
    · subst hn
      have := cnt_le i (fun u hu => h u (by omega))
      rw [if_neg (by simp [h1]), if_pos h2]
      omega
    · have h3 := ih (fun u hu => h u (by omega)) (by omega) h1 h2
      have h4 := h n (by omega)
      by_cases hf : f n = true
      · rw [if_pos hf, if_pos (h4 hf)]; omega
      · rw [if_neg hf]; omega
def ps_bf (ks : List (List Nat)) (i u : Nat) : Bool := decide (ps_cmp (ks.getD u []) (ks.getD i []) < 0) || (decide (ps_cmp (ks.getD u []) (ks.getD i []) = 0) && decide (u < i))
theorem cnt_plc (ks : List (List Nat)) (i : Nat) : ∀ n, n ≤ ks.length → cnt (ps_bf ks i) n = ps_cl (ks.take n) (ks.getD i []) + ps_eqc (ks.take (min n i)) (ks.getD i []) := by
  intro n
  induction n with
  | zero => intro _; simp [cnt, ps_cl, ps_eqc]
  | succ n ih =>
    intro h
    have ht : ks.take (n + 1) = ks.take n ++ [ks.getD n []] := by
      rw [List.take_add_one, List.getElem?_eq_getElem (by omega)]
      simp [List.getD, List.getElem?_eq_getElem (show n < ks.length by omega)]
    rw [cnt, ih (by omega), ht, ps_cl_snoc]
    unfold ps_bf
    by_cases hn : n < i
    · rw [show min (n + 1) i = n + 1 by omega, show min n i = n by omega, ht, ps_eqc_snoc]
      rcases cmp_val (ks.getD n []) (ks.getD i []) with h1 | h1 | h1 <;> rw [h1]
      · simp [hn, show nI 0 = (0 : Int32) from rfl]; omega
      · simp; omega
      · simp [show ¬ nI 1 < (0 : Int32) by decide, show ¬ nI 1 = (0 : Int32) by decide]
    · rw [show min (n + 1) i = i by omega, show min n i = i by omega]
      rcases cmp_val (ks.getD n []) (ks.getD i []) with h1 | h1 | h1 <;> rw [h1]
      · simp [hn, show nI 0 = (0 : Int32) from rfl]
      · simp; omega
      · simp [show ¬ nI 1 < (0 : Int32) by decide, show ¬ nI 1 = (0 : Int32) by decide]
theorem plc_cnt {ks : List (List Nat)} {i : Nat} (hi : i < ks.length) : ps_plc ks i = cnt (ps_bf ks i) ks.length := by
  rw [cnt_plc ks i ks.length (Nat.le_refl _), List.take_length, Nat.min_eq_right (by omega)]
  rfl
theorem cnt_n (f : Nat → Bool) : ∀ n, cnt f n ≤ n := by
  intro n
  induction n with
  | zero => exact Nat.le_refl _
  | succ n ih => simp only [cnt]; split <;> omega
theorem bf_lt {ks : List (List Nat)} {i j N : Nat} (hk : ∀ y ∈ ks, ps_kz N y) (hi : i < ks.length) (hj : j < ks.length) (h : ps_bf ks j i = true) (hij : ¬ i = j) : ps_plc ks i < ps_plc ks j := by
  rw [plc_cnt hi, plc_cnt hj]
  have hg : ∀ u, u < ks.length → ks.getD u [] ∈ ks := fun u hu => by simp [List.getD, List.getElem?_eq_getElem hu]
  refine cnt_lt (i := i) ks.length (fun u hu hf => ?_) hi ?_ h
  · unfold ps_bf at hf h ⊢
    rw [Bool.or_eq_true, Bool.and_eq_true, decide_eq_true_eq, decide_eq_true_eq, decide_eq_true_eq] at hf h ⊢
    have lt1 : ∀ a b, ps_cmp a b < 0 → ps_cmp a b = -1 := fun a b q => by
      rcases cmp_val a b with z | z | z
      · rw [z] at q; exact absurd q (by decide)
      · exact z
      · rw [z] at q; exact absurd q (by decide)
    rcases hf with hf | ⟨hf, hu2⟩
    · rcases h with h | ⟨h, h2⟩
      · left; rw [cmp_trans _ _ _ (lt1 _ _ hf) (lt1 _ _ h)]; decide
      · have e := cmp_eq _ _ N (hk _ (hg i hi)) (hk _ (hg j hj)) h
        left; rw [← e]; exact hf
    · have e := cmp_eq _ _ N (hk _ (hg u hu)) (hk _ (hg i hi)) hf
      rw [e]
      rcases h with h | ⟨h, h2⟩
      · exact Or.inl h
      · exact Or.inr ⟨h, by omega⟩
  · unfold ps_bf
    rw [cmp_self]
    simp [show ¬ nI 0 < (0 : Int32) by decide]
theorem plc_un {ks : List (List Nat)} {i j N : Nat} (hk : ∀ y ∈ ks, ps_kz N y) (hi : i < ks.length) (hj : j < ks.length) (h : ps_plc ks i = ps_plc ks j) : i = j := by
  rcases Nat.lt_trichotomy i j with hij | hij | hij
  · rcases cmp_val (ks.getD i []) (ks.getD j []) with h1 | h1 | h1
    · have := bf_lt hk hi hj (by unfold ps_bf; rw [h1]; simp [hij, show nI 0 = (0 : Int32) from rfl]) (by omega)
      omega
    · have := bf_lt hk hi hj (by unfold ps_bf; rw [h1]; simp) (by omega)
      omega
    · have := bf_lt hk hj hi (by unfold ps_bf; rw [cmp_sym _ _ h1]; simp) (by omega)
      omega
  · exact hij
  · rcases cmp_val (ks.getD j []) (ks.getD i []) with h1 | h1 | h1
    · have := bf_lt hk hj hi (by unfold ps_bf; rw [h1]; simp [hij, show nI 0 = (0 : Int32) from rfl]) (by omega)
      omega
    · have := bf_lt hk hj hi (by unfold ps_bf; rw [h1]; simp) (by omega)
      omega
    · have := bf_lt hk hi hj (by unfold ps_bf; rw [cmp_sym _ _ h1]; simp) (by omega)
      omega
set_option maxHeartbeats 4000000 in
set_option maxRecDepth 100000 in
theorem lp_Mo_order {G : mx_G} {d : Nat} {S : List mx_Sh} {D : mx_Mem} {a b : Nat} {ys zs : List Nat} {R : Int32} (hS : SM S) (ha : a < 12) (hb : b < 12) (hy : KZ D a ys) (hz : KZ D b zs) : ∀ (m k : Nat) (v4 v5 : Option Value), k ≤ ys.length → ys.length - k = m → ps_cmp (ys.drop k) (zs.drop k) = R → EV G d m_Mo_order 2 [some (.ref 80), some (.int (nI a)), some (.int (nI b)), some (.int (nI k)), v4, v5] [] S D S (RI R D) := by
  obtain ⟨hm0, hm1, hm2, hm3, hm4, hm5, hm6, hm7, hm8, hm9, hm10, hm11, hm12⟩ := id hS
  have hly := hy.2.1
  have hlz := hz.2.1
  intro m
  induction m with
  | zero =>
    intro k v4 v5 h1 h2 hR
    rw [List.drop_of_length_le (by omega)] at hR
    have hR2 : R = nI 0 := by rw [← hR]; cases zs.drop k <;> rfl
    subst hR2
    refine EV.iload_n d_Mo_order_2 rfl ?_
    refine EV.aload_n d_Mo_order_3 rfl ?_
    refine EV.getR fl_Mo_47 d_Mo_order_4 (by first | assumption | rfl) rfl ?_
    refine EV.iload_n d_Mo_order_7 rfl ?_
    refine EV.ialdN d_Mo_order_8 (by first | assumption | rfl) rfl rfl (by omega) (by first | decide | omega) ?_
    refine EV.icmp_geN (tgt := 74) d_Mo_order_9 (by decide) rfl hy.1.1 (by omega) (by omega) (fun _ => ?_) (fun h => absurd h (by omega))
    refine EV.iconst (v := nI 0) d_Mo_order_74 (by decide) ?_
    exact EV.ireturn d_Mo_order_75 ⟨_, rfl, rfl⟩ ⟨rfl, rfl⟩
  | succ m ih =>
    intro k v4 v5 h1 h2 hR
    have hyk : ys[k]? = some (ys[k]'(by omega)) := List.getElem?_eq_getElem (by omega)
    have hyv := hy.1.2 k _ hyk
    have hyb := hy.2.2 _ (List.mem_of_getElem? hyk)
    have hyd : ys.drop k = ys[k]'(by omega) :: ys.drop (k + 1) := List.drop_eq_getElem_cons (by omega)
    generalize ys[k]'(by omega) = y at hyk hyv hyb hyd
    rcases Nat.lt_or_ge k zs.length with hkz | hkz
    · have hzk : zs[k]? = some zs[k] := List.getElem?_eq_getElem hkz
      have hzv := hz.1.2 k _ hzk
      have hzb := hz.2.2 _ (List.mem_of_getElem? hzk)
      have hzd : zs.drop k = zs[k] :: zs.drop (k + 1) := List.drop_eq_getElem_cons hkz
      generalize zs[k] = z at hzk hzv hzb hzd
      rw [hyd, hzd] at hR
      simp only [ps_cmp] at hR
      refine EV.iload_n d_Mo_order_2 rfl ?_
      refine EV.aload_n d_Mo_order_3 rfl ?_
      refine EV.getR fl_Mo_47 d_Mo_order_4 (by first | assumption | rfl) rfl ?_
      refine EV.iload_n d_Mo_order_7 rfl ?_
      refine EV.ialdN d_Mo_order_8 (by first | assumption | rfl) rfl rfl (by omega) (by first | decide | omega) ?_
      refine EV.icmp_geN (tgt := 74) d_Mo_order_9 (by decide) rfl hy.1.1 (by omega) (by omega) (fun h => absurd h (by omega)) (fun _ => ?_)
      refine EV.iload_n d_Mo_order_12 rfl ?_
      refine EV.aload_n d_Mo_order_13 rfl ?_
      refine EV.getR fl_Mo_47 d_Mo_order_14 (by first | assumption | rfl) rfl ?_
      refine EV.iload_n d_Mo_order_17 rfl ?_
      refine EV.ialdN d_Mo_order_18 (by first | assumption | rfl) rfl rfl (by omega) (by first | decide | omega) ?_
      refine EV.icmp_geN (tgt := 74) d_Mo_order_19 (by decide) rfl hz.1.1 (by omega) (by omega) (fun h => absurd h (by omega)) (fun _ => ?_)
      refine EV.aload_n d_Mo_order_22 rfl ?_
      refine EV.getR fl_Mo_44 d_Mo_order_23 (by first | assumption | rfl) rfl ?_
      refine EV.bipush (v := nI 64) d_Mo_order_26 (by decide) ?_
      refine EV.iload_n d_Mo_order_28 rfl ?_
      refine EV.imul d_Mo_order_29 ?_
      refine EV.iload_n d_Mo_order_30 rfl ?_
      refine EV.iadd d_Mo_order_31 ?_
      refine EV.ialdN d_Mo_order_32 (by first | assumption | rfl) rfl (show _ = nI (64 * a + k) from by rw [pk_mul, nI_add]) (by omega) (by first | decide | omega) ?_
      refine EV.top hyv ?_
      refine EV.istore d_Mo_order_33 (by decide) ?_
      refine EV.aload_n d_Mo_order_35 rfl ?_
      refine EV.getR fl_Mo_44 d_Mo_order_36 (by first | assumption | rfl) rfl ?_
      refine EV.bipush (v := nI 64) d_Mo_order_39 (by decide) ?_
      refine EV.iload_n d_Mo_order_41 rfl ?_
      refine EV.imul d_Mo_order_42 ?_
      refine EV.iload_n d_Mo_order_43 rfl ?_
      refine EV.iadd d_Mo_order_44 ?_
      refine EV.ialdN d_Mo_order_45 (by first | assumption | rfl) rfl (show _ = nI (64 * b + k) from by rw [pk_mul, nI_add]) (by omega) (by first | decide | omega) ?_
      refine EV.top hzv ?_
      refine EV.istore d_Mo_order_46 (by decide) ?_
      refine EV.iload d_Mo_order_48 rfl ?_
      refine EV.iload d_Mo_order_50 rfl ?_
      refine EV.icmp_eqN (tgt := 68) d_Mo_order_52 (by decide) rfl rfl (by omega) (by omega) (fun h52 => ?_) (fun h52 => ?_)
      · rw [if_pos h52] at hR
        refine EV.iincN d_Mo_order_68 rfl (by decide) ?_
        refine EV.goto (tgt := 2) d_Mo_order_71 (by decide) ?_
        exact ih (k + 1) _ _ (by omega) (by omega) hR
      · rw [if_neg h52] at hR
        refine EV.iload d_Mo_order_55 rfl ?_
        refine EV.iload d_Mo_order_57 rfl ?_
        refine EV.icmp_geN (tgt := 66) d_Mo_order_59 (by decide) rfl rfl (by omega) (by omega) (fun h59 => ?_) (fun h59 => ?_)
        · rw [if_neg (by omega)] at hR
          refine EV.iconst (v := nI 1) d_Mo_order_66 (by decide) ?_
          exact EV.ireturn d_Mo_order_67 ⟨_, rfl, rfl⟩ ⟨by rw [← hR], rfl⟩
        · rw [if_pos (by omega)] at hR
          refine EV.iconst (v := (-1)) d_Mo_order_62 (by decide) ?_
          refine EV.goto (tgt := 67) d_Mo_order_63 (by decide) ?_
          exact EV.ireturn d_Mo_order_67 ⟨_, rfl, rfl⟩ ⟨by rw [← hR], rfl⟩
    · rw [List.drop_of_length_le hkz, ps_cmp_nil] at hR
      subst hR
      refine EV.iload_n d_Mo_order_2 rfl ?_
      refine EV.aload_n d_Mo_order_3 rfl ?_
      refine EV.getR fl_Mo_47 d_Mo_order_4 (by first | assumption | rfl) rfl ?_
      refine EV.iload_n d_Mo_order_7 rfl ?_
      refine EV.ialdN d_Mo_order_8 (by first | assumption | rfl) rfl rfl (by omega) (by first | decide | omega) ?_
      refine EV.icmp_geN (tgt := 74) d_Mo_order_9 (by decide) rfl hy.1.1 (by omega) (by omega) (fun h => absurd h (by omega)) (fun _ => ?_)
      refine EV.iload_n d_Mo_order_12 rfl ?_
      refine EV.aload_n d_Mo_order_13 rfl ?_
      refine EV.getR fl_Mo_47 d_Mo_order_14 (by first | assumption | rfl) rfl ?_
      refine EV.iload_n d_Mo_order_17 rfl ?_
      refine EV.ialdN d_Mo_order_18 (by first | assumption | rfl) rfl rfl (by omega) (by first | decide | omega) ?_
      refine EV.icmp_geN (tgt := 74) d_Mo_order_19 (by decide) rfl hz.1.1 (by omega) (by omega) (fun _ => ?_) (fun h => absurd h (by omega))
      refine EV.iconst (v := nI 0) d_Mo_order_74 (by decide) ?_
      exact EV.ireturn d_Mo_order_75 ⟨_, rfl, rfl⟩ ⟨rfl, rfl⟩
set_option maxHeartbeats 4000000 in
set_option maxRecDepth 100000 in
theorem sp_Mo_order {G : mx_G} {d : Nat} {S : List mx_Sh} {D : mx_Mem} {a b : Nat} {ys zs : List Nat} (hS : SM S) (ha : a < 12) (hb : b < 12) (hy : KZ D a ys) (hz : KZ D b zs) : EV G d m_Mo_order 0 (mx_lc0 m_Mo_order [.ref 80, .int (nI a), .int (nI b)]) [] S D S (RI (ps_cmp ys zs) D) := by
  show EV _ _ _ _ [some (.ref 80), some (.int (nI a)), some (.int (nI b)), none, none, none] [] _ _ _ _
  refine EV.iconst (v := nI 0) d_Mo_order_0 (by decide) ?_
  refine EV.istore_n d_Mo_order_1 (by decide) ?_
  exact lp_Mo_order hS ha hb hy hz ys.length 0 _ _ (by omega) rfl rfl
theorem sg_tx {σ : sg} (hI : SI σ) {xs : List Nat} (h : ps_to xs) : ps_tx σ.2.1 xs := ps_to_tx h hI.2.2.2.1
theorem rf_wr {G : mx_G} {d : Nat} {S : List mx_Sh} {D : mx_Mem} {σ : sg} (hS : SM S) (hC : MI D σ) (hI : SI σ) {t : Nat} {xs : List Nat} (ht : t < 12) (hx : TX D t xs) (hto : ps_to xs) : EV G (d + 3) m_Mo_write 0 (mx_lc0 m_Mo_write [.ref 80, .int (nI t)]) [] S D S (WrQ D t (sg_k σ xs)) :=
  sp_Mo_write hS (MI_TC hC hI) hC.2.2.2.1.1 hI.2.2.2.2.1.2 hC.2.2.2.1.2.2 ht hx (sg_tx hI hto)
set_option maxHeartbeats 4000000 in
set_option maxRecDepth 100000 in
theorem sp_Mo_kl0 {G : mx_G} {d : Nat} {S : List mx_Sh} {D : mx_Mem} {σ : sg} (hS : SM S) (hC : MI D σ) (hI : SI σ) : EV G (d + 4) m_Mo_keyLength 0 (mx_lc0 m_Mo_keyLength [.ref 80, .int (nI 0)]) [] S D S (PM D σ (nI (sg_k σ (σ.1 0)).length)) := by
  obtain ⟨hm0, hm1, hm2, hm3, hm4, hm5, hm6, hm7, hm8, hm9, hm10, hm11, hm12⟩ := id hS
  show EV _ _ _ _ [some (.ref 80), some (.int (nI 0))] [] _ _ _ _
  refine EV.aload_n d_Mo_keyLength_0 rfl ?_
  refine EV.iload_n d_Mo_keyLength_1 rfl ?_
  refine EV.V1 cv_Mo_63 d_Mo_keyLength_2 (by first | assumption | rfl) (sp_Mo_isLine) ⟨Nat.le_refl _, Nat.le_refl _⟩ rfl rfl (Nat.le_of_ble_eq_true rfl) (fun rv D1 hp => ?_)
  obtain ⟨rfl, hD⟩ := hp
  obtain rfl := hD.symm
  refine EV.if_neB (tgt := 10) d_Mo_keyLength_5 (by decide) (fun _ => ?_) (fun h => absurd h (by decide))
  refine EV.aload_n d_Mo_keyLength_10 rfl ?_
  refine EV.iload_n d_Mo_keyLength_11 rfl ?_
  refine EV.V1 cv_Mo_143 d_Mo_keyLength_12 (by first | assumption | rfl) (rf_wr hS hC hI (t := 0) (by decide) hC.1.1 hI.1.1) ⟨Nat.le_refl _, Nat.le_refl _⟩ rfl rfl (Nat.le_of_ble_eq_true rfl) (fun rv D1 hp => ?_)
  obtain ⟨rfl, q1, q2⟩ := hp
  refine EV.aload_n d_Mo_keyLength_15 rfl ?_
  refine EV.getR fl_Mo_47 d_Mo_keyLength_16 (by first | assumption | rfl) rfl ?_
  refine EV.iload_n d_Mo_keyLength_19 rfl ?_
  refine EV.ialdN d_Mo_keyLength_20 (by first | assumption | rfl) rfl rfl (by decide) (by first | decide | omega) ?_
  refine EV.top q2.1.1 ?_
  exact EV.ireturn d_Mo_keyLength_21 ⟨_, rfl, rfl⟩ ⟨rfl, MI_fr hC q1, fun q hq => q1.1.1 q (by omega) (by omega) (by omega) (by omega) (by omega)⟩
set_option maxHeartbeats 4000000 in
set_option maxRecDepth 100000 in
theorem sp_Mo_kl1 {G : mx_G} {d : Nat} {S : List mx_Sh} {D : mx_Mem} {σ : sg} (hS : SM S) (hC : MI D σ) (hI : SI σ) : EV G (d + 4) m_Mo_keyLength 0 (mx_lc0 m_Mo_keyLength [.ref 80, .int (nI 1)]) [] S D S (PM D σ (nI (sg_k σ (σ.1 1)).length)) := by
  obtain ⟨hm0, hm1, hm2, hm3, hm4, hm5, hm6, hm7, hm8, hm9, hm10, hm11, hm12⟩ := id hS
  show EV _ _ _ _ [some (.ref 80), some (.int (nI 1))] [] _ _ _ _
  refine EV.aload_n d_Mo_keyLength_0 rfl ?_
  refine EV.iload_n d_Mo_keyLength_1 rfl ?_
  refine EV.V1 cv_Mo_63 d_Mo_keyLength_2 (by first | assumption | rfl) (sp_Mo_isLine) ⟨Nat.le_refl _, Nat.le_refl _⟩ rfl rfl (Nat.le_of_ble_eq_true rfl) (fun rv D1 hp => ?_)
  obtain ⟨rfl, hD⟩ := hp
  obtain rfl := hD.symm
  refine EV.if_neB (tgt := 10) d_Mo_keyLength_5 (by decide) (fun _ => ?_) (fun h => absurd h (by decide))
  refine EV.aload_n d_Mo_keyLength_10 rfl ?_
  refine EV.iload_n d_Mo_keyLength_11 rfl ?_
  refine EV.V1 cv_Mo_143 d_Mo_keyLength_12 (by first | assumption | rfl) (rf_wr hS hC hI (t := 1) (by decide) hC.1.2 hI.1.2) ⟨Nat.le_refl _, Nat.le_refl _⟩ rfl rfl (Nat.le_of_ble_eq_true rfl) (fun rv D1 hp => ?_)
  obtain ⟨rfl, q1, q2⟩ := hp
  refine EV.aload_n d_Mo_keyLength_15 rfl ?_
  refine EV.getR fl_Mo_47 d_Mo_keyLength_16 (by first | assumption | rfl) rfl ?_
  refine EV.iload_n d_Mo_keyLength_19 rfl ?_
  refine EV.ialdN d_Mo_keyLength_20 (by first | assumption | rfl) rfl rfl (by decide) (by first | decide | omega) ?_
  refine EV.top q2.1.1 ?_
  exact EV.ireturn d_Mo_keyLength_21 ⟨_, rfl, rfl⟩ ⟨rfl, MI_fr hC q1, fun q hq => q1.1.1 q (by omega) (by omega) (by omega) (by omega) (by omega)⟩
set_option maxHeartbeats 4000000 in
set_option maxRecDepth 100000 in
theorem sp_Mo_klN {G : mx_G} {d : Nat} {S : List mx_Sh} {D : mx_Mem} {σ : sg} (hS : SM S) (hC : MI D σ) (hI : SI σ) {x : Int32} (hx : ¬ x = nI 0 ∧ ¬ x = nI 1) : EV G (d + 4) m_Mo_keyLength 0 (mx_lc0 m_Mo_keyLength [.ref 80, .int x]) [] S D S (PM D σ (-1)) := by
  obtain ⟨hm0, hm1, hm2, hm3, hm4, hm5, hm6, hm7, hm8, hm9, hm10, hm11, hm12⟩ := id hS
  show EV _ _ _ _ [some (.ref 80), some (.int x)] [] _ _ _ _
  refine EV.aload_n d_Mo_keyLength_0 rfl ?_
  refine EV.iload_n d_Mo_keyLength_1 rfl ?_
  refine EV.V1 cv_Mo_63 d_Mo_keyLength_2 (by first | assumption | rfl) (sp_Mo_isLine) ⟨Nat.le_refl _, Nat.le_refl _⟩ rfl rfl (Nat.le_of_ble_eq_true rfl) (fun rv D1 hp => ?_)
  obtain ⟨rfl, hD⟩ := hp
  obtain rfl := hD.symm
  refine EV.if_neB (tgt := 10) d_Mo_keyLength_5 (by decide) (fun h => by have := of_decide_eq_true h; exact (this.elim hx.1 hx.2).elim) (fun _ => ?_)
  refine EV.iconst (v := (-1)) d_Mo_keyLength_8 (by decide) ?_
  exact EV.ireturn d_Mo_keyLength_9 ⟨_, rfl, rfl⟩ ⟨rfl, hC, fun _ _ => rfl⟩
set_option maxHeartbeats 4000000 in
set_option maxRecDepth 100000 in
theorem rf_klen {G : mx_G} {d : Nat} {S : List mx_Sh} {D : mx_Mem} {σ : sg} (hS : SM S) (hC : MI D σ) (hI : SI σ) {x : Int32} : EV G (d + 4) m_Mo_keyLength 0 (mx_lc0 m_Mo_keyLength [.ref 80, .int x]) [] S D S (PM D σ (op_klen σ x)) := by
  unfold op_klen
  by_cases h0 : x = nI 0
  · subst h0; rw [if_pos rfl]; exact sp_Mo_kl0 hS hC hI
  · by_cases h1 : x = nI 1
    · subst h1; rw [if_neg h0, if_pos rfl]; exact sp_Mo_kl1 hS hC hI
    · rw [if_neg h0, if_neg h1]; exact sp_Mo_klN hS hC hI ⟨h0, h1⟩
set_option maxHeartbeats 4000000 in
set_option maxRecDepth 100000 in
theorem sp_Mo_ka0 {G : mx_G} {d : Nat} {S : List mx_Sh} {D : mx_Mem} {σ : sg} (hS : SM S) (hC : MI D σ) (hI : SI σ) {y : Int32} : EV G (d + 4) m_Mo_keyAt 0 (mx_lc0 m_Mo_keyAt [.ref 80, .int (nI 0), .int y]) [] S D S (PM D σ (ps_nth (sg_k σ (σ.1 0)) y)) := by
  obtain ⟨hm0, hm1, hm2, hm3, hm4, hm5, hm6, hm7, hm8, hm9, hm10, hm11, hm12⟩ := id hS
  show EV _ _ _ _ [some (.ref 80), some (.int (nI 0)), some (.int y)] [] _ _ _ _
  refine EV.aload_n d_Mo_keyAt_0 rfl ?_
  refine EV.iload_n d_Mo_keyAt_1 rfl ?_
  refine EV.V1 cv_Mo_63 d_Mo_keyAt_2 (by first | assumption | rfl) (sp_Mo_isLine) ⟨Nat.le_refl _, Nat.le_refl _⟩ rfl rfl (Nat.le_of_ble_eq_true rfl) (fun rv D1 hp => ?_)
  obtain ⟨rfl, hD⟩ := hp
  obtain rfl := hD.symm
  refine EV.if_neB (tgt := 10) d_Mo_keyAt_5 (by decide) (fun _ => ?_) (fun h => absurd h (by decide))
  refine EV.aload_n d_Mo_keyAt_10 rfl ?_
  refine EV.iload_n d_Mo_keyAt_11 rfl ?_
  refine EV.V1 cv_Mo_143 d_Mo_keyAt_12 (by first | assumption | rfl) (rf_wr hS hC hI (t := 0) (by decide) hC.1.1 hI.1.1) ⟨Nat.le_refl _, Nat.le_refl _⟩ rfl rfl (Nat.le_of_ble_eq_true rfl) (fun rv D1 hp => ?_)
  obtain ⟨rfl, q1, q2⟩ := hp
  have hl52 := q2.2.1
  unfold ps_nth
  generalize sg_k σ (σ.1 0) = ys at q2 hl52 ⊢
  refine EV.iload_n d_Mo_keyAt_15 rfl ?_
  refine EV.if_lt (tgt := 43) d_Mo_keyAt_16 (by decide) (fun h16 => ?_) (fun h16 => ?_)
  · rw [if_pos (Or.inl h16)]
    refine EV.iconst (v := (-1)) d_Mo_keyAt_43 (by decide) ?_
    exact EV.ireturn d_Mo_keyAt_44 ⟨_, rfl, rfl⟩ ⟨rfl, MI_fr hC q1, fun q hq => q1.1.1 q (by omega) (by omega) (by omega) (by omega) (by omega)⟩
  · refine EV.iload_n d_Mo_keyAt_19 rfl ?_
    refine EV.aload_n d_Mo_keyAt_20 rfl ?_
    refine EV.getR fl_Mo_47 d_Mo_keyAt_21 (by first | assumption | rfl) rfl ?_
    refine EV.iload_n d_Mo_keyAt_24 rfl ?_
    refine EV.ialdN d_Mo_keyAt_25 (by first | assumption | rfl) rfl rfl (by decide) (by first | decide | omega) ?_
    refine EV.top q2.1.1 ?_
    refine EV.icmp_ge (tgt := 43) d_Mo_keyAt_26 (by decide) (fun h26 => ?_) (fun h26 => ?_)
    · rw [if_pos (Or.inr h26)]
      refine EV.iconst (v := (-1)) d_Mo_keyAt_43 (by decide) ?_
      exact EV.ireturn d_Mo_keyAt_44 ⟨_, rfl, rfl⟩ ⟨rfl, MI_fr hC q1, fun q hq => q1.1.1 q (by omega) (by omega) (by omega) (by omega) (by omega)⟩
    · obtain ⟨i, hi, rfl⟩ : ∃ i, i < ys.length ∧ y = nI i := by
        rcases pk_ix y (n := ys.length) (by omega) with h | h | ⟨i, hi, rfl⟩
        · exact absurd h h16
        · exact absurd h h26
        · exact ⟨i, hi, rfl⟩
      rw [if_neg (fun h => h.elim h16 h26), nI_clamp (by omega)]
      have hiv := q2.1.2 i ys[i] (List.getElem?_eq_getElem hi)
      refine EV.aload_n d_Mo_keyAt_29 rfl ?_
      refine EV.getR fl_Mo_44 d_Mo_keyAt_30 (by first | assumption | rfl) rfl ?_
      refine EV.bipush (v := nI 64) d_Mo_keyAt_33 (by decide) ?_
      refine EV.iload_n d_Mo_keyAt_35 rfl ?_
      refine EV.imul d_Mo_keyAt_36 ?_
      refine EV.iload_n d_Mo_keyAt_37 rfl ?_
      refine EV.iadd d_Mo_keyAt_38 ?_
      refine EV.ialdN d_Mo_keyAt_39 (by first | assumption | rfl) rfl (show _ = nI (64 * 0 + i) from by rw [pk_mul, nI_add]) (by omega) (by first | decide | omega) ?_
      refine EV.top (y := nI (ys.getD i 0)) (by rw [hiv]; simp [List.getD, List.getElem?_eq_getElem hi]) ?_
      refine EV.goto (tgt := 44) d_Mo_keyAt_40 (by decide) ?_
      exact EV.ireturn d_Mo_keyAt_44 ⟨_, rfl, rfl⟩ ⟨rfl, MI_fr hC q1, fun q hq => q1.1.1 q (by omega) (by omega) (by omega) (by omega) (by omega)⟩
set_option maxHeartbeats 4000000 in
set_option maxRecDepth 100000 in
theorem sp_Mo_ka1 {G : mx_G} {d : Nat} {S : List mx_Sh} {D : mx_Mem} {σ : sg} (hS : SM S) (hC : MI D σ) (hI : SI σ) {y : Int32} : EV G (d + 4) m_Mo_keyAt 0 (mx_lc0 m_Mo_keyAt [.ref 80, .int (nI 1), .int y]) [] S D S (PM D σ (ps_nth (sg_k σ (σ.1 1)) y)) := by
  obtain ⟨hm0, hm1, hm2, hm3, hm4, hm5, hm6, hm7, hm8, hm9, hm10, hm11, hm12⟩ := id hS
  show EV _ _ _ _ [some (.ref 80), some (.int (nI 1)), some (.int y)] [] _ _ _ _
  refine EV.aload_n d_Mo_keyAt_0 rfl ?_
  refine EV.iload_n d_Mo_keyAt_1 rfl ?_
  refine EV.V1 cv_Mo_63 d_Mo_keyAt_2 (by first | assumption | rfl) (sp_Mo_isLine) ⟨Nat.le_refl _, Nat.le_refl _⟩ rfl rfl (Nat.le_of_ble_eq_true rfl) (fun rv D1 hp => ?_)
  obtain ⟨rfl, hD⟩ := hp
  obtain rfl := hD.symm
  refine EV.if_neB (tgt := 10) d_Mo_keyAt_5 (by decide) (fun _ => ?_) (fun h => absurd h (by decide))
  refine EV.aload_n d_Mo_keyAt_10 rfl ?_
  refine EV.iload_n d_Mo_keyAt_11 rfl ?_
  refine EV.V1 cv_Mo_143 d_Mo_keyAt_12 (by first | assumption | rfl) (rf_wr hS hC hI (t := 1) (by decide) hC.1.2 hI.1.2) ⟨Nat.le_refl _, Nat.le_refl _⟩ rfl rfl (Nat.le_of_ble_eq_true rfl) (fun rv D1 hp => ?_)
  obtain ⟨rfl, q1, q2⟩ := hp
  have hl52 := q2.2.1
  unfold ps_nth
  generalize sg_k σ (σ.1 1) = ys at q2 hl52 ⊢
  refine EV.iload_n d_Mo_keyAt_15 rfl ?_
  refine EV.if_lt (tgt := 43) d_Mo_keyAt_16 (by decide) (fun h16 => ?_) (fun h16 => ?_)
  · rw [if_pos (Or.inl h16)]
    refine EV.iconst (v := (-1)) d_Mo_keyAt_43 (by decide) ?_
    exact EV.ireturn d_Mo_keyAt_44 ⟨_, rfl, rfl⟩ ⟨rfl, MI_fr hC q1, fun q hq => q1.1.1 q (by omega) (by omega) (by omega) (by omega) (by omega)⟩
  · refine EV.iload_n d_Mo_keyAt_19 rfl ?_
    refine EV.aload_n d_Mo_keyAt_20 rfl ?_
    refine EV.getR fl_Mo_47 d_Mo_keyAt_21 (by first | assumption | rfl) rfl ?_
    refine EV.iload_n d_Mo_keyAt_24 rfl ?_
    refine EV.ialdN d_Mo_keyAt_25 (by first | assumption | rfl) rfl rfl (by decide) (by first | decide | omega) ?_
    refine EV.top q2.1.1 ?_
    refine EV.icmp_ge (tgt := 43) d_Mo_keyAt_26 (by decide) (fun h26 => ?_) (fun h26 => ?_)
    · rw [if_pos (Or.inr h26)]
      refine EV.iconst (v := (-1)) d_Mo_keyAt_43 (by decide) ?_
      exact EV.ireturn d_Mo_keyAt_44 ⟨_, rfl, rfl⟩ ⟨rfl, MI_fr hC q1, fun q hq => q1.1.1 q (by omega) (by omega) (by omega) (by omega) (by omega)⟩
    · obtain ⟨i, hi, rfl⟩ : ∃ i, i < ys.length ∧ y = nI i := by
        rcases pk_ix y (n := ys.length) (by omega) with h | h | ⟨i, hi, rfl⟩
        · exact absurd h h16
        · exact absurd h h26
        · exact ⟨i, hi, rfl⟩
      rw [if_neg (fun h => h.elim h16 h26), nI_clamp (by omega)]
      have hiv := q2.1.2 i ys[i] (List.getElem?_eq_getElem hi)
      refine EV.aload_n d_Mo_keyAt_29 rfl ?_
      refine EV.getR fl_Mo_44 d_Mo_keyAt_30 (by first | assumption | rfl) rfl ?_
      refine EV.bipush (v := nI 64) d_Mo_keyAt_33 (by decide) ?_
      refine EV.iload_n d_Mo_keyAt_35 rfl ?_
      refine EV.imul d_Mo_keyAt_36 ?_
      refine EV.iload_n d_Mo_keyAt_37 rfl ?_
      refine EV.iadd d_Mo_keyAt_38 ?_
      refine EV.ialdN d_Mo_keyAt_39 (by first | assumption | rfl) rfl (show _ = nI (64 * 1 + i) from by rw [pk_mul, nI_add]) (by omega) (by first | decide | omega) ?_
      refine EV.top (y := nI (ys.getD i 0)) (by rw [hiv]; simp [List.getD, List.getElem?_eq_getElem hi]) ?_
      refine EV.goto (tgt := 44) d_Mo_keyAt_40 (by decide) ?_
      exact EV.ireturn d_Mo_keyAt_44 ⟨_, rfl, rfl⟩ ⟨rfl, MI_fr hC q1, fun q hq => q1.1.1 q (by omega) (by omega) (by omega) (by omega) (by omega)⟩
set_option maxHeartbeats 4000000 in
set_option maxRecDepth 100000 in
theorem sp_Mo_kaN {G : mx_G} {d : Nat} {S : List mx_Sh} {D : mx_Mem} {σ : sg} (hS : SM S) (hC : MI D σ) (hI : SI σ) {x y : Int32} (hx : ¬ x = nI 0 ∧ ¬ x = nI 1) : EV G (d + 4) m_Mo_keyAt 0 (mx_lc0 m_Mo_keyAt [.ref 80, .int x, .int y]) [] S D S (PM D σ (-1)) := by
  obtain ⟨hm0, hm1, hm2, hm3, hm4, hm5, hm6, hm7, hm8, hm9, hm10, hm11, hm12⟩ := id hS
  show EV _ _ _ _ [some (.ref 80), some (.int x), some (.int y)] [] _ _ _ _
  refine EV.aload_n d_Mo_keyAt_0 rfl ?_
  refine EV.iload_n d_Mo_keyAt_1 rfl ?_
  refine EV.V1 cv_Mo_63 d_Mo_keyAt_2 (by first | assumption | rfl) (sp_Mo_isLine) ⟨Nat.le_refl _, Nat.le_refl _⟩ rfl rfl (Nat.le_of_ble_eq_true rfl) (fun rv D1 hp => ?_)
  obtain ⟨rfl, hD⟩ := hp
  obtain rfl := hD.symm
  refine EV.if_neB (tgt := 10) d_Mo_keyAt_5 (by decide) (fun h => by have := of_decide_eq_true h; exact (this.elim hx.1 hx.2).elim) (fun _ => ?_)
  refine EV.iconst (v := (-1)) d_Mo_keyAt_8 (by decide) ?_
  exact EV.ireturn d_Mo_keyAt_9 ⟨_, rfl, rfl⟩ ⟨rfl, hC, fun _ _ => rfl⟩
set_option maxHeartbeats 4000000 in
set_option maxRecDepth 100000 in
theorem rf_kat {G : mx_G} {d : Nat} {S : List mx_Sh} {D : mx_Mem} {σ : sg} (hS : SM S) (hC : MI D σ) (hI : SI σ) {x y : Int32} : EV G (d + 4) m_Mo_keyAt 0 (mx_lc0 m_Mo_keyAt [.ref 80, .int x, .int y]) [] S D S (PM D σ (op_kat σ x y)) := by
  unfold op_kat
  by_cases h0 : x = nI 0
  · subst h0; rw [if_pos rfl]; exact sp_Mo_ka0 hS hC hI
  · by_cases h1 : x = nI 1
    · subst h1; rw [if_neg h0, if_pos rfl]; exact sp_Mo_ka1 hS hC hI
    · rw [if_neg h0, if_neg h1]; exact sp_Mo_kaN hS hC hI ⟨h0, h1⟩
set_option maxHeartbeats 4000000 in
set_option maxRecDepth 100000 in
theorem rf_cmp {G : mx_G} {d : Nat} {S : List mx_Sh} {D : mx_Mem} {σ : sg} (hS : SM S) (hC : MI D σ) (hI : SI σ) : EV G (d + 4) m_Mo_compare 0 (mx_lc0 m_Mo_compare [.ref 80]) [] S D S (PM D σ (op_cmp σ)) := by
  obtain ⟨hm0, hm1, hm2, hm3, hm4, hm5, hm6, hm7, hm8, hm9, hm10, hm11, hm12⟩ := id hS
  show EV _ _ _ _ [some (.ref 80)] [] _ _ _ _
  refine EV.aload_n d_Mo_compare_0 rfl ?_
  refine EV.iconst (v := nI 0) d_Mo_compare_1 (by decide) ?_
  refine EV.V1 cv_Mo_143 d_Mo_compare_2 (by first | assumption | rfl) (rf_wr hS hC hI (t := 0) (by decide) hC.1.1 hI.1.1) ⟨Nat.le_refl _, Nat.le_refl _⟩ rfl rfl (Nat.le_of_ble_eq_true rfl) (fun rv D1 hp => ?_)
  obtain ⟨rfl, q1, q2⟩ := hp
  have hC1 := MI_fr hC q1
  refine EV.aload_n d_Mo_compare_5 rfl ?_
  refine EV.iconst (v := nI 1) d_Mo_compare_6 (by decide) ?_
  refine EV.V1 cv_Mo_143 d_Mo_compare_7 (by first | assumption | rfl) (rf_wr hS hC1 hI (t := 1) (by decide) hC1.1.2 hI.1.2) ⟨Nat.le_refl _, Nat.le_refl _⟩ rfl rfl (Nat.le_of_ble_eq_true rfl) (fun rv D1 hp => ?_)
  obtain ⟨rfl, p1, p2⟩ := hp
  have hC2 := MI_fr hC1 p1
  refine EV.aload_n d_Mo_compare_10 rfl ?_
  refine EV.iconst (v := nI 0) d_Mo_compare_11 (by decide) ?_
  refine EV.iconst (v := nI 1) d_Mo_compare_12 (by decide) ?_
  refine EV.V2 cv_Mo_146 d_Mo_compare_13 (by first | assumption | rfl) (sp_Mo_order hS (by decide) (by decide) (KZ_fr q2 p1 (by decide)) p2) ⟨Nat.le_refl _, Nat.le_refl _⟩ rfl rfl (Nat.le_of_ble_eq_true rfl) (fun rv D1 hp => ?_)
  obtain ⟨rfl, hD⟩ := hp
  obtain rfl := hD.symm
  exact EV.ireturn d_Mo_compare_16 ⟨_, rfl, rfl⟩ ⟨rfl, hC2, fun q hq => (p1.1.1 q (by omega) (by omega) (by omega) (by omega) (by omega)).trans (q1.1.1 q (by omega) (by omega) (by omega) (by omega) (by omega))⟩
