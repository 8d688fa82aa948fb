theorem el_e_lv {tb : ps_T} (h30 : tb.length ≤ 30) (sh : Bool) (s : List Nat) (k : Nat) : ps_lv (el_e tb sh s) k < 2000 := by
  have := ps_wof_le h30 s
  unfold el_e
  split
  · unfold ps_lv; split <;> simp <;> omega
  · unfold ps_lv
    split <;> simp <;> first | omega | (split <;> omega)
theorem el_m_lv {c : Nat} (h : c < 128) (b : Bool) (k : Nat) : ps_lv (if b = true then (0, 0, 0, 0) else el_m c) k < 2000 := by
  split
  · unfold ps_lv; split <;> simp
  · unfold el_m ps_lv
    split <;> simp <;> omega
def FEP (D0 : mx_Mem) (X : Nat → List Nat) : Option Value → mx_Mem → Prop := fun rv D' => rv = none ∧ FrM D0 D' ∧ ∃ es : List ps_E, (D' 80 19 = nI es.length ∧ ElM (D' 90) es) ∧ es.length ≤ 12 ∧ (∀ e ∈ es, ∀ k, ps_lv e k < 2000) ∧ ∀ k, ps_nz k es = X k
theorem ElM_lv {f : Nat → Int32} {es : List ps_E} {i k : Nat} {e : ps_E} (h : ElM f es) (he : es[i]? = some e) (hk : k < 4) : f (4 * i + k) = nI (ps_lv e k) := by
  obtain ⟨a, b, c, d⟩ := h i e he
  rcases (show k = 0 ∨ k = 1 ∨ k = 2 ∨ k = 3 by omega) with rfl | rfl | rfl | rfl
  · exact a
  · exact b
  · exact c
  · exact d
/-- the key of text t -/
def KA (D : mx_Mem) (t : Nat) (ys : List Nat) : Prop := ∀ (j w : Nat), ys[j]? = some w → D 91 (64 * t + j) = nI w
def KY (D : mx_Mem) (t : Nat) (ys : List Nat) : Prop := D 92 t = nI ys.length ∧ KA D t ys
def FrW (t : Nat) (D D' : mx_Mem) : Prop := ((∀ k, ¬ k = 80 → ¬ k = 89 → ¬ k = 90 → ¬ k = 91 → ¬ k = 92 → D' k = D k) ∧ ∀ j, ¬ j = 17 → ¬ j = 19 → ¬ j = 20 → D' 80 j = D 80 j) ∧ (∀ i, (i < 64 * t ∨ 64 * t + 64 ≤ i) → D' 91 i = D 91 i) ∧ ∀ u, ¬ u = t → D' 92 u = D 92 u
theorem KA_snoc {D : mx_Mem} {t w : Nat} {ys : List Nat} (h : KA D t ys) : KA (mx_w D 91 (64 * t + ys.length) (nI w)) t (ys ++ [w]) := by
  intro j x hx
  rw [mx_w_eq]
  unfold upd
  by_cases hj : j = ys.length
  · subst hj
    simp at hx
    subst hx
    rw [if_pos rfl]
  · have hl : j < ys.length := by
      have := (List.getElem?_eq_some_iff.mp hx).1
      rw [List.length_append, List.length_singleton] at this
      omega
    rw [List.getElem?_append_left hl] at hx
    rw [if_neg (by omega)]
    exact h j x hx
def ps_ro (bw : Bool) (es : List ps_E) (k : Nat) : List ps_E := if (bw && decide (k = 1)) = true then es.reverse else es
theorem ps_ro_len (bw : Bool) (es : List ps_E) (k : Nat) : (ps_ro bw es k).length = es.length := by unfold ps_ro; split <;> simp
theorem ps_row_ro (bw : Bool) (es : List ps_E) (k : Nat) : ps_row bw es k = ps_nz k (ps_ro bw es k) ++ [0] := rfl
theorem ps_nz_snoc (k : Nat) (es : List ps_E) (e : ps_E) : ps_nz k (es ++ [e]) = if ps_lv e k = 0 then ps_nz k es else ps_nz k es ++ [ps_lv e k] := by
  rw [ps_nz_app]
  unfold ps_nz
  by_cases h : ps_lv e k = 0 <;> simp [h]
theorem ps_nz_len (k : Nat) (es : List ps_E) : (ps_nz k es).length ≤ es.length := by
  unfold ps_nz
  exact Nat.le_trans (List.length_filter_le _ _) (by simp)
set_option maxHeartbeats 4000000 in
set_option maxRecDepth 100000 in
theorem lp_Mo_fe {G : mx_G} {d : Nat} {S : List mx_Sh} {D0 : mx_Mem} {tb : ps_T} {sh : Bool} {X : Nat → List Nat} {v1 v2 : Option Value} (hS : SM S) (hT : TC D0 tb sh) : ∀ (n : Nat) (l : List Nat) (v : Bool) (es : List ps_E) (D : mx_Mem), l.length ≤ n → es.length + l.length ≤ 12 → (∀ c ∈ l, 0 < c ∧ c < 128) → (∀ c ∈ l, ps_mark c = false → ps_has tb [c]) → FrM D0 D → RS D l es → D 80 20 = bI v → (∀ e ∈ es, ∀ k, ps_lv e k < 2000) → (∀ k, ps_nz k es ++ ps_nz k (ps_els tb sh l.length v l) = X k) → EV G (d + 2) m_Mo_findElements 57 [some (.ref 80), v1, v2] [] S D S (FEP D0 X) := by
  obtain ⟨hm0, hm1, hm2, hm3, hm4, hm5, hm6, hm7, hm8, hm9, hm10, hm11, hm12⟩ := id hS
  intro n
  induction n with
  | zero =>
    intro l v es D h1 h2 hch hha hF hR hv hlv hX
    have : l = [] := List.length_eq_zero_iff.mp (by omega)
    subst this
    refine EV.aload_n d_Mo_findElements_57 rfl ?_
    refine EV.getI fl_Mo_99 d_Mo_findElements_58 (by first | assumption | rfl) rfl ?_
    refine EV.if_leN (tgt := 101) d_Mo_findElements_61 (by decide) hR.1.1 (by decide) (fun _ => ?_) (fun h => absurd h (by decide))
    exact EV.return_ d_Mo_findElements_101 rfl ⟨rfl, hF, es, hR.2, by simpa using h2, hlv, fun k => by have := hX k; simp [ps_els, ps_nz] at this; unfold ps_nz; simpa using this⟩
  | succ n ih =>
    intro l v es D h1 h2 hch hha hF hR hv hlv hX
    cases l with
    | nil =>
      refine EV.aload_n d_Mo_findElements_57 rfl ?_
      refine EV.getI fl_Mo_99 d_Mo_findElements_58 (by first | assumption | rfl) rfl ?_
      refine EV.if_leN (tgt := 101) d_Mo_findElements_61 (by decide) hR.1.1 (by decide) (fun _ => ?_) (fun h => absurd h (by decide))
      exact EV.return_ d_Mo_findElements_101 rfl ⟨rfl, hF, es, hR.2, by simpa using h2, hlv, fun k => by have := hX k; simp [ps_els, ps_nz] at this; unfold ps_nz; simpa using this⟩
    | cons c r =>
      have hT1 := TC_fr hT hF
      have hc := hch c List.mem_cons_self
      have hcv : D 89 0 = nI c := hR.1.2 0 c rfl
      have hl := List.length_cons (a := c) (as := r)
      have h30 := hT.2.2.2.1
      by_cases hm : ps_mark c = true
      · refine EV.aload_n d_Mo_findElements_57 rfl ?_
        refine EV.getI fl_Mo_99 d_Mo_findElements_58 (by first | assumption | rfl) rfl ?_
        refine EV.if_leN (tgt := 101) d_Mo_findElements_61 (by decide) hR.1.1 (by omega) (fun h => absurd h (by omega)) (fun _ => ?_)
        refine EV.aload_n d_Mo_findElements_64 rfl ?_
        refine EV.getR fl_Mo_38 d_Mo_findElements_65 (by first | assumption | rfl) rfl ?_
        refine EV.iconst (v := nI 0) d_Mo_findElements_68 (by decide) ?_
        refine EV.ialdN d_Mo_findElements_69 (by first | assumption | rfl) rfl rfl (by decide) (by first | decide | omega) ?_
        refine EV.top hcv ?_
        refine EV.T1 cs_Mo_60 d_Mo_findElements_70 (sp_Mo_isMark (by omega)) ⟨Nat.le_refl _, Nat.le_refl _⟩ rfl rfl (Nat.le_of_ble_eq_true rfl) (fun rv D1 hp => ?_)
        obtain ⟨rfl, hD⟩ := hp
        obtain rfl := hD.symm
        refine EV.if_eqB (tgt := 94) d_Mo_findElements_73 (by decide) (fun h => absurd h (by simp [hm])) (fun _ => ?_)
        refine EV.aload_n d_Mo_findElements_76 rfl ?_
        refine EV.aload_n d_Mo_findElements_77 rfl ?_
        refine EV.getR fl_Mo_38 d_Mo_findElements_78 (by first | assumption | rfl) rfl ?_
        refine EV.iconst (v := nI 0) d_Mo_findElements_81 (by decide) ?_
        refine EV.ialdN d_Mo_findElements_82 (by first | assumption | rfl) rfl rfl (by decide) (by first | decide | omega) ?_
        refine EV.top hcv ?_
        refine EV.V1 cv_Mo_131 d_Mo_findElements_83 (by first | assumption | rfl) (sp_Mo_markElement hS hR.2.1 hR.2.2 (by omega) hT1.2.1 hv hc.2) ⟨Nat.le_refl _, Nat.le_refl _⟩ rfl rfl (Nat.le_of_ble_eq_true rfl) (fun rv D1 hp => ?_)
        obtain ⟨rfl, q1, q2, q3, q4, q5⟩ := hp
        have hD1 : D1 80 17 = nI (c :: r).length := by rw [q2 17 (by omega)]; exact hR.1.1
        have ha1 : ar (D1 89) (c :: r) := by rw [q3]; exact hR.1.2
        refine EV.aload_n d_Mo_findElements_86 rfl ?_
        refine EV.iconst (v := nI 0) d_Mo_findElements_87 (by decide) ?_
        refine EV.V1 cv_Mo_125 d_Mo_findElements_88 (by first | assumption | rfl) (sp_Mo_remove (a := 0) hS hD1 ha1 (by omega) (by omega)) ⟨Nat.le_refl _, Nat.le_refl _⟩ rfl rfl (Nat.le_of_ble_eq_true rfl) (fun rv D1 hp => ?_)
        obtain ⟨rfl, p1, p2, p3, p4, p5⟩ := hp
        refine EV.goto (tgt := 57) d_Mo_findElements_91 (by decide) ?_
        refine ih r v (es ++ [if (sh && v) = true then (0, 0, 0, 0) else el_m c]) D1 (by omega) (by simp; omega) (fun x hx => hch x (List.mem_cons_of_mem _ hx)) (fun x hx => hha x (List.mem_cons_of_mem _ hx)) (FrM_t hF (FrM_t q1 p1)) ⟨⟨p4, p5⟩, ?_, ?_⟩ ?_ ?_ ?_
        · rw [p2 19 (by omega), q4]; simp
        · rw [p3]; exact q5
        · rw [p2 20 (by omega), q2 20 (by omega)]; exact hv
        · intro e he k
          rcases List.mem_append.mp he with h | h
          · exact hlv e h k
          · rw [List.mem_singleton] at h; subst h; exact el_m_lv hc.2 _ k
        · intro k
          rw [ps_nz_app, List.append_assoc, fl_mark tb sh v k c r hm]
          exact hX k
      · refine EV.aload_n d_Mo_findElements_57 rfl ?_
        refine EV.getI fl_Mo_99 d_Mo_findElements_58 (by first | assumption | rfl) rfl ?_
        refine EV.if_leN (tgt := 101) d_Mo_findElements_61 (by decide) hR.1.1 (by omega) (fun h => absurd h (by omega)) (fun _ => ?_)
        refine EV.aload_n d_Mo_findElements_64 rfl ?_
        refine EV.getR fl_Mo_38 d_Mo_findElements_65 (by first | assumption | rfl) rfl ?_
        refine EV.iconst (v := nI 0) d_Mo_findElements_68 (by decide) ?_
        refine EV.ialdN d_Mo_findElements_69 (by first | assumption | rfl) rfl rfl (by decide) (by first | decide | omega) ?_
        refine EV.top hcv ?_
        refine EV.T1 cs_Mo_60 d_Mo_findElements_70 (sp_Mo_isMark (by omega)) ⟨Nat.le_refl _, Nat.le_refl _⟩ rfl rfl (Nat.le_of_ble_eq_true rfl) (fun rv D1 hp => ?_)
        obtain ⟨rfl, hD⟩ := hp
        obtain rfl := hD.symm
        refine EV.if_eqB (tgt := 94) d_Mo_findElements_73 (by decide) (fun _ => ?_) (fun h => absurd h hm)
        refine EV.aload_n d_Mo_findElements_94 rfl ?_
        refine EV.V0 cv_Mo_134 d_Mo_findElements_95 (by first | assumption | rfl) (sp_Mo_entryElement (es := es) (l := c :: r) hS hT1 (by omega) (by omega) hch hR (by omega) (ps_has_idx (hha c List.mem_cons_self (by simpa using hm))) rfl) ⟨Nat.le_refl _, Nat.le_refl _⟩ rfl rfl (Nat.le_of_ble_eq_true rfl) (fun rv D1 hp => ?_)
        obtain ⟨rfl, q1, ⟨q2, q3⟩, q4, q5, q6⟩ := hp
        refine EV.goto (tgt := 57) d_Mo_findElements_98 (by decide) ?_
        have hA := ps_abs_len tb ((c :: r).drop (ps_first tb (c :: r)).length) (ps_first tb (c :: r)) []
        have hS2 := ps_abs_sub tb ((c :: r).drop (ps_first tb (c :: r)).length) (ps_first tb (c :: r)) []
        have hf := ps_first_pos tb (l := c :: r) (by omega)
        have hfe := fun k => fl_entry tb sh v k c r hm rfl
        rw [List.length_drop] at hA
        generalize ps_abs tb (ps_first tb (c :: r)) [] ((c :: r).drop (ps_first tb (c :: r)).length) = A at q2 q3 q4 q6 hA hS2 hfe
        have hA1 := hA.2.1
        rw [List.length_nil] at hA1
        have hsub : ∀ x, x ∈ A.2.1 ++ A.2.2 → x ∈ c :: r := fun x hx => by
          rcases List.mem_append.mp hx with h | h
          · rcases hS2.1 x h with h | h
            · cases h
            · exact List.mem_of_mem_drop h
          · exact List.mem_of_mem_drop (hS2.2 x h)
        refine ih (A.2.1 ++ A.2.2) (ps_isv A.1) (es ++ [el_e tb sh A.1]) D1 (by rw [List.length_append]; omega) (by rw [List.length_append, List.length_append, List.length_singleton]; omega) (fun x hx => hch x (hsub x hx)) (fun x hx => hha x (hsub x hx)) (FrM_t hF q1) ⟨⟨q2, q3⟩, ?_, q6⟩ q4 ?_ ?_
        · rw [q5]; simp
        · intro e he k
          rcases List.mem_append.mp he with h | h
          · exact hlv e h k
          · rw [List.mem_singleton] at h; subst h; exact el_e_lv h30 sh _ k
        · intro k
          rw [ps_nz_app, List.append_assoc, hfe k]
          exact hX k
set_option maxHeartbeats 4000000 in
set_option maxRecDepth 100000 in
theorem lp_Mo_fec {G : mx_G} {d : Nat} {S : List mx_Sh} {D0 : mx_Mem} {t : Nat} {xs : List Nat} {Post : Option Value → mx_Mem → Prop} (hS : SM S) (ht : t < 12) (hx : TX D0 t xs) (h12 : xs.length ≤ 12) (K : ∀ (D : mx_Mem) (v2 : Option Value), FrM D0 D → D 80 17 = nI xs.length → ar (D 89) xs → EV G d m_Mo_findElements 43 [some (.ref 80), some (.int (nI t)), v2] [] S D S Post) : ∀ (m k : Nat) (D : mx_Mem), k ≤ xs.length → xs.length - k = m → FrM D0 D → D 80 17 = nI xs.length → ar (D 89) (xs.take k) → EV G d m_Mo_findElements 12 [some (.ref 80), some (.int (nI t)), some (.int (nI k))] [] S D S Post := by
  obtain ⟨hm0, hm1, hm2, hm3, hm4, hm5, hm6, hm7, hm8, hm9, hm10, hm11, hm12⟩ := id hS
  intro m
  induction m with
  | zero =>
    intro k D h1 h2 hF hl har
    rw [List.take_of_length_le (by omega)] at har
    refine EV.iload_n d_Mo_findElements_12 rfl ?_
    refine EV.aload_n d_Mo_findElements_13 rfl ?_
    refine EV.getI fl_Mo_99 d_Mo_findElements_14 (by first | assumption | rfl) rfl ?_
    refine EV.icmp_geN (tgt := 43) d_Mo_findElements_17 (by decide) rfl hl (by omega) (by omega) (fun _ => ?_) (fun h => absurd h (by omega))
    exact K D _ hF hl har
  | succ m ih =>
    intro k D h1 h2 hF hl har
    obtain ⟨c, hc⟩ : ∃ c, xs[k]? = some c := ⟨xs[k]'(by omega), List.getElem?_eq_getElem (by omega)⟩
    have hcv : D 86 (12 * t + k) = nI c := by rw [hF.1 86 (by omega) (by omega) (by omega)]; exact hx.2 k c hc
    refine EV.iload_n d_Mo_findElements_12 rfl ?_
    refine EV.aload_n d_Mo_findElements_13 rfl ?_
    refine EV.getI fl_Mo_99 d_Mo_findElements_14 (by first | assumption | rfl) rfl ?_
    refine EV.icmp_geN (tgt := 43) d_Mo_findElements_17 (by decide) rfl hl (by omega) (by omega) (fun h => absurd h (by omega)) (fun _ => ?_)
    refine EV.aload_n d_Mo_findElements_20 rfl ?_
    refine EV.getR fl_Mo_38 d_Mo_findElements_21 (by first | assumption | rfl) rfl ?_
    refine EV.iload_n d_Mo_findElements_24 rfl ?_
    refine EV.aload_n d_Mo_findElements_25 rfl ?_
    refine EV.getR fl_Mo_25 d_Mo_findElements_26 (by first | assumption | rfl) rfl ?_
    refine EV.bipush (v := nI 12) d_Mo_findElements_29 (by decide) ?_
    refine EV.iload_n d_Mo_findElements_31 rfl ?_
    refine EV.imul d_Mo_findElements_32 ?_
    refine EV.iload_n d_Mo_findElements_33 rfl ?_
    refine EV.iadd d_Mo_findElements_34 ?_
    refine EV.ialdN d_Mo_findElements_35 (by first | assumption | rfl) rfl (show _ = nI (12 * t + k) from by rw [pk_mul, nI_add]) (by omega) (by first | decide | omega) ?_
    refine EV.top hcv ?_
    refine EV.iastN d_Mo_findElements_36 (by first | assumption | rfl) rfl rfl (by omega) (by first | decide | omega) ?_
    refine EV.iincN d_Mo_findElements_37 rfl (by decide) ?_
    refine EV.goto (tgt := 12) d_Mo_findElements_40 (by decide) ?_
    refine ih (k + 1) _ (by omega) (by omega) (FrM_t hF ⟨fun q _ q1 _ => mx_w_ne _ _ _ q1, fun j _ _ _ => by rw [mx_w_ne _ _ _ (by omega)]⟩) (by rw [mx_w_ne _ _ _ (by omega)]; exact hl) ?_
    have e := List.take_add_one (l := xs) (i := k)
    rw [hc] at e
    rw [e, mx_w_eq]
    have htl : (xs.take k).length = k := by rw [List.length_take]; omega
    have := ar_snoc (x := c) har
    rw [htl] at this
    exact this
set_option maxHeartbeats 4000000 in
set_option maxRecDepth 100000 in
theorem sp_Mo_findElements {G : mx_G} {d : Nat} {S : List mx_Sh} {D0 : mx_Mem} {tb : ps_T} {sh : Bool} {t : Nat} {xs : List Nat} (hS : SM S) (hT : TC D0 tb sh) (ht : t < 12) (hx : TX D0 t xs) (htx : ps_tx tb xs) : EV G (d + 2) m_Mo_findElements 0 (mx_lc0 m_Mo_findElements [.ref 80, .int (nI t)]) [] S D0 S (FEP D0 (fun k => ps_nz k (ps_els tb sh xs.length false (ps_arr xs)))) := by
  obtain ⟨hm0, hm1, hm2, hm3, hm4, hm5, hm6, hm7, hm8, hm9, hm10, hm11, hm12⟩ := id hS
  show EV _ _ _ _ [some (.ref 80), some (.int (nI t)), none] [] _ _ _ _
  refine EV.aload_n d_Mo_findElements_0 rfl ?_
  refine EV.aload_n d_Mo_findElements_1 rfl ?_
  refine EV.getR fl_Mo_28 d_Mo_findElements_2 (by first | assumption | rfl) rfl ?_
  refine EV.iload_n d_Mo_findElements_5 rfl ?_
  refine EV.ialdN d_Mo_findElements_6 (by first | assumption | rfl) rfl rfl (by omega) (by first | decide | omega) ?_
  refine EV.top hx.1 ?_
  refine EV.putI fl_Mo_99 d_Mo_findElements_7 (by first | assumption | rfl) rfl rfl rfl ?_
  refine EV.iconst (v := nI 0) d_Mo_findElements_10 (by decide) ?_
  refine EV.istore_n d_Mo_findElements_11 (by decide) ?_
  refine lp_Mo_fec (xs := xs) hS ht ?_ htx.1 ?_ xs.length 0 _ (by omega) rfl (FrM_r _) (by rw [mx_w_eq]; simp [upd]) (fun i x hx => by simp at hx)
  · exact ⟨by rw [mx_w_ne _ _ _ (by omega)]; exact hx.1, by rw [mx_w_ne _ _ _ (by omega)]; exact hx.2⟩
  intro D v2 hF hl har
  have hF0 : FrM D0 D := FrM_t ⟨fun k k0 _ _ => mx_w_ne _ _ _ k0, fun j j0 _ _ => by rw [mx_w_eq]; simp [upd, j0]⟩ hF
  refine EV.aload_n d_Mo_findElements_43 rfl ?_
  refine EV.V0 cv_Mo_128 d_Mo_findElements_44 (by first | assumption | rfl) (sp_Mo_settle hS hl har htx.1 (fun c hc => (htx.2.1 c hc).2)) ⟨Nat.le_refl _, Nat.le_refl _⟩ rfl rfl (Nat.le_of_ble_eq_true rfl) (fun rv D1 hp => ?_)
  obtain ⟨rfl, q1, q2⟩ := hp
  refine EV.aload_n d_Mo_findElements_47 rfl ?_
  refine EV.iconst (v := nI 0) d_Mo_findElements_48 (by decide) ?_
  refine EV.putI fl_Mo_105 d_Mo_findElements_49 (by first | assumption | rfl) rfl rfl rfl ?_
  refine EV.aload_n d_Mo_findElements_52 rfl ?_
  refine EV.iconst (v := nI 0) d_Mo_findElements_53 (by decide) ?_
  refine EV.putI fl_Mo_112 d_Mo_findElements_54 (by first | assumption | rfl) rfl rfl rfl ?_
  have hal := ps_arr_len xs
  refine EV.post (fun rv D2 h => h) (lp_Mo_fe hS hT (ps_arr xs).length (ps_arr xs) false [] _ (by omega) (by simp; rw [hal]; exact htx.1) (fun c hc => htx.2.1 c ((ps_arr_mem xs).mp hc)) (fun c hc => htx.2.2 c ((ps_arr_mem xs).mp hc)) ?_ ⟨⟨?_, ?_⟩, ?_, ?_⟩ ?_ (fun e he => by cases he) ?_)
  · refine FrM_t hF0 ⟨fun k k0 k1 _ => ?_, fun j j0 j1 j2 => ?_⟩
    · rw [mx_w_ne _ _ _ k0, mx_w_ne _ _ _ k0]; exact q1 k k1
    · rw [mx_w_eq, mx_w_eq, q1 80 (by omega)]; simp [upd, j1, j2]
  · rw [mx_w_eq, mx_w_eq, q1 80 (by omega), hal]; simp [upd, hl]
  · rw [mx_w_ne _ _ _ (by omega), mx_w_ne _ _ _ (by omega)]; exact q2
  · rw [mx_w_eq, mx_w_eq]; simp [upd]
  · intro i e he; simp at he
  · rw [mx_w_eq]; simp [upd]; rfl
  · intro k; rw [hal]; simp [ps_nz]
set_option maxHeartbeats 4000000 in
set_option maxRecDepth 100000 in
theorem lp_Mo_wr1 {G : mx_G} {d : Nat} {S : List mx_Sh} {D0 : mx_Mem} {t lv : Nat} {bw : Bool} {es : List ps_E} {pre : List Nat} {Post : Option Value → mx_Mem → Prop} (hS : SM S) (ht : t < 12) (hlv : lv < 4) (h12 : es.length ≤ 12) (hbd : ∀ e ∈ es, ∀ k, ps_lv e k < 2000) (hpre : pre.length ≤ 39) (hE0 : D0 80 19 = nI es.length ∧ ElM (D0 90) es) (hbw : D0 80 15 = bI bw) (K : ∀ (D : mx_Mem) (v4 v5 v6 : Option Value), FrW t D0 D → D 92 = D0 92 → D 80 = D0 80 → D 90 = D0 90 → KA D t (pre ++ ps_nz lv (ps_ro bw es lv)) → EV G d m_Mo_write 97 [some (.ref 80), some (.int (nI t)), some (.int (nI (pre ++ ps_nz lv (ps_ro bw es lv)).length)), some (.int (nI lv)), v4, v5, v6] [] S D S Post) : ∀ (m k : Nat) (D : mx_Mem) (v5 v6 : Option Value), k ≤ es.length → es.length - k = m → FrW t D0 D → D 92 = D0 92 → D 80 = D0 80 → D 90 = D0 90 → KA D t (pre ++ ps_nz lv ((ps_ro bw es lv).take k)) → EV G d m_Mo_write 20 [some (.ref 80), some (.int (nI t)), some (.int (nI (pre ++ ps_nz lv ((ps_ro bw es lv).take k)).length)), some (.int (nI lv)), some (.int (nI k)), v5, v6] [] S D S Post := by
  obtain ⟨hm0, hm1, hm2, hm3, hm4, hm5, hm6, hm7, hm8, hm9, hm10, hm11, hm12⟩ := id hS
  have hrl := ps_ro_len bw es lv
  intro m
  induction m with
  | zero =>
    intro k D v5 v6 h1 h2 hF h92 h80 h90 hK
    have hel : D 80 19 = nI es.length := by rw [h80]; exact hE0.1
    rw [List.take_of_length_le (by omega)] at hK ⊢
    refine EV.iload d_Mo_write_20 rfl ?_
    refine EV.aload_n d_Mo_write_22 rfl ?_
    refine EV.getI fl_Mo_105 d_Mo_write_23 (by first | assumption | rfl) rfl ?_
    refine EV.icmp_geN (tgt := 97) d_Mo_write_26 (by decide) rfl hel (by omega) (by omega) (fun _ => ?_) (fun h => absurd h (by omega))
    exact K D _ _ _ hF h92 h80 h90 hK
  | succ m ih =>
    intro k D v5 v6 h1 h2 hF h92 h80 h90 hK
    have hel : D 80 19 = nI es.length := by rw [h80]; exact hE0.1
    have hbw2 : D 80 15 = bI bw := by rw [h80]; exact hbw
    obtain ⟨e, he⟩ : ∃ e, (ps_ro bw es lv)[k]? = some e := ⟨(ps_ro bw es lv)[k]'(by omega), List.getElem?_eq_getElem (by omega)⟩
    have htk := List.take_add_one (l := ps_ro bw es lv) (i := k)
    rw [he] at htk
    have hnl := ps_nz_len lv ((ps_ro bw es lv).take k)
    rw [List.length_take] at hnl
    have hpl : (pre ++ ps_nz lv ((ps_ro bw es lv).take k)).length = pre.length + (ps_nz lv ((ps_ro bw es lv).take k)).length := List.length_append
    have J : ∀ (a : Nat) (w5 : Option Value), es[a]? = some e → EV G d m_Mo_write 57 [some (.ref 80), some (.int (nI t)), some (.int (nI (pre ++ ps_nz lv ((ps_ro bw es lv).take k)).length)), some (.int (nI lv)), some (.int (nI k)), some (.int (nI a)), v6] [] S D S Post := by
      intro a w5 ha
      have hal := (List.getElem?_eq_some_iff.mp ha).1
      have hwv : D 90 (4 * a + lv) = nI (ps_lv e lv) := by rw [h90]; exact ElM_lv hE0.2 ha hlv
      have hwb := hbd e (List.mem_of_getElem? ha) lv
      have hns := ps_nz_snoc lv ((ps_ro bw es lv).take k) e
      rw [Option.toList_some] at htk
      rw [← htk] at hns
      refine EV.aload_n d_Mo_write_57 rfl ?_
      refine EV.getR fl_Mo_41 d_Mo_write_58 (by first | assumption | rfl) rfl ?_
      refine EV.iconst (v := nI 4) d_Mo_write_61 (by decide) ?_
      refine EV.iload d_Mo_write_62 rfl ?_
      refine EV.imul d_Mo_write_64 ?_
      refine EV.iload_n d_Mo_write_65 rfl ?_
      refine EV.iadd d_Mo_write_66 ?_
      refine EV.ialdN d_Mo_write_67 (by first | assumption | rfl) rfl (show _ = nI (4 * a + lv) from by rw [pk_mul, nI_add]) (by omega) (by first | decide | omega) ?_
      refine EV.top hwv ?_
      refine EV.istore d_Mo_write_68 (by decide) ?_
      refine EV.iload d_Mo_write_70 rfl ?_
      refine EV.if_eqN (tgt := 91) d_Mo_write_72 (by decide) rfl (by omega) (fun h72 => ?_) (fun h72 => ?_)
      · rw [if_pos h72] at hns
        refine EV.iincN d_Mo_write_91 rfl (by decide) ?_
        refine EV.goto (tgt := 20) d_Mo_write_94 (by decide) ?_
        first
        | (have J2 := ih (k + 1) D (some (.int (nI a))) (some (.int (nI (ps_lv e lv)))) (by omega) (by omega) hF h92 h80 h90 (by rw [hns]; exact hK)
           rw [hns] at J2
           exact J2)
        | (have J2 := ih (k + 1) (mx_w D 91 (64 * t + (pre ++ ps_nz lv ((ps_ro bw es lv).take k)).length) (nI (ps_lv e lv))) (some (.int (nI a))) (some (.int (nI (ps_lv e lv)))) (by omega) (by omega) ⟨⟨fun q q0 q1 q2 q3 q4 => by rw [mx_w_ne _ _ _ q3]; exact hF.1.1 q q0 q1 q2 q3 q4, fun j j0 j1 j2 => by rw [mx_w_ne _ _ _ (by omega)]; exact hF.1.2 j j0 j1 j2⟩, fun i hi => by rw [mx_w_eq]; unfold upd; rw [if_neg (by omega)]; exact hF.2.1 i hi, fun u hu => by rw [mx_w_ne _ _ _ (by omega)]; exact hF.2.2 u hu⟩ (by rw [mx_w_ne _ _ _ (by omega)]; exact h92) (by rw [mx_w_ne _ _ _ (by omega)]; exact h80) (by rw [mx_w_ne _ _ _ (by omega)]; exact h90) (by rw [hns, ← List.append_assoc]; exact KA_snoc hK)
           rw [hns, ← List.append_assoc, List.length_append (as := pre ++ ps_nz lv ((ps_ro bw es lv).take k)), List.length_singleton] at J2
           exact J2)
      · rw [if_neg h72] at hns
        refine EV.aload_n d_Mo_write_75 rfl ?_
        refine EV.getR fl_Mo_44 d_Mo_write_76 (by first | assumption | rfl) rfl ?_
        refine EV.bipush (v := nI 64) d_Mo_write_79 (by decide) ?_
        refine EV.iload_n d_Mo_write_81 rfl ?_
        refine EV.imul d_Mo_write_82 ?_
        refine EV.iload_n d_Mo_write_83 rfl ?_
        refine EV.iadd d_Mo_write_84 ?_
        refine EV.iload d_Mo_write_85 rfl ?_
        refine EV.iastN d_Mo_write_87 (by first | assumption | rfl) rfl (show _ = nI (64 * t + (pre ++ ps_nz lv ((ps_ro bw es lv).take k)).length) from by rw [pk_mul, nI_add]) (by omega) (by first | decide | omega) ?_
        refine EV.iincN d_Mo_write_88 rfl (by decide) ?_
        refine EV.iincN d_Mo_write_91 rfl (by decide) ?_
        refine EV.goto (tgt := 20) d_Mo_write_94 (by decide) ?_
        first
        | (have J2 := ih (k + 1) D (some (.int (nI a))) (some (.int (nI (ps_lv e lv)))) (by omega) (by omega) hF h92 h80 h90 (by rw [hns]; exact hK)
           rw [hns] at J2
           exact J2)
        | (have J2 := ih (k + 1) (mx_w D 91 (64 * t + (pre ++ ps_nz lv ((ps_ro bw es lv).take k)).length) (nI (ps_lv e lv))) (some (.int (nI a))) (some (.int (nI (ps_lv e lv)))) (by omega) (by omega) ⟨⟨fun q q0 q1 q2 q3 q4 => by rw [mx_w_ne _ _ _ q3]; exact hF.1.1 q q0 q1 q2 q3 q4, fun j j0 j1 j2 => by rw [mx_w_ne _ _ _ (by omega)]; exact hF.1.2 j j0 j1 j2⟩, fun i hi => by rw [mx_w_eq]; unfold upd; rw [if_neg (by omega)]; exact hF.2.1 i hi, fun u hu => by rw [mx_w_ne _ _ _ (by omega)]; exact hF.2.2 u hu⟩ (by rw [mx_w_ne _ _ _ (by omega)]; exact h92) (by rw [mx_w_ne _ _ _ (by omega)]; exact h80) (by rw [mx_w_ne _ _ _ (by omega)]; exact h90) (by rw [hns, ← List.append_assoc]; exact KA_snoc hK)
           rw [hns, ← List.append_assoc, List.length_append (as := pre ++ ps_nz lv ((ps_ro bw es lv).take k)), List.length_singleton] at J2
           exact J2)
    refine EV.iload d_Mo_write_20 rfl ?_
    refine EV.aload_n d_Mo_write_22 rfl ?_
    refine EV.getI fl_Mo_105 d_Mo_write_23 (by first | assumption | rfl) rfl ?_
    refine EV.icmp_geN (tgt := 97) d_Mo_write_26 (by decide) rfl hel (by omega) (by omega) (fun h => absurd h (by omega)) (fun _ => ?_)
    refine EV.iload_n d_Mo_write_29 rfl ?_
    refine EV.iconst (v := nI 1) d_Mo_write_30 (by decide) ?_
    refine EV.icmp_neN (tgt := 53) d_Mo_write_31 (by decide) rfl rfl (by omega) (by omega) (fun h31 => ?_) (fun h31 => ?_)
    · have hro : ps_ro bw es lv = es := by unfold ps_ro; rw [if_neg (by simp [h31])]
      rw [hro] at he
      refine EV.iload d_Mo_write_53 rfl ?_
      refine EV.istore d_Mo_write_55 (by decide) ?_
      exact J _ v5 he
    · refine EV.aload_n d_Mo_write_34 rfl ?_
      refine EV.getI fl_Mo_140 d_Mo_write_35 (by first | assumption | rfl) rfl ?_
      refine EV.top hbw2 ?_
      refine EV.if_eqB (tgt := 53) d_Mo_write_38 (by decide) (fun h38 => ?_) (fun h38 => ?_)
      · have hro : ps_ro bw es lv = es := by unfold ps_ro; rw [if_neg (by simp [h38])]
        rw [hro] at he
        refine EV.iload d_Mo_write_53 rfl ?_
        refine EV.istore d_Mo_write_55 (by decide) ?_
        exact J _ v5 he
      · have hro : ps_ro bw es lv = es.reverse := by unfold ps_ro; rw [if_pos (by simp [h31, h38])]
        rw [hro, List.getElem?_reverse (by omega)] at he
        refine EV.aload_n d_Mo_write_41 rfl ?_
        refine EV.getI fl_Mo_105 d_Mo_write_42 (by first | assumption | rfl) rfl ?_
        refine EV.top hel ?_
        refine EV.iconst (v := nI 1) d_Mo_write_45 (by decide) ?_
        refine EV.isub d_Mo_write_46 ?_
        refine EV.iload d_Mo_write_47 rfl ?_
        refine EV.isub d_Mo_write_49 ?_
        refine EV.top (y := nI (es.length - 1 - k)) (by rw [pk_sub (by omega), pk_sub (by omega)]) ?_
        refine EV.goto (tgt := 55) d_Mo_write_50 (by decide) ?_
        refine EV.istore d_Mo_write_55 (by decide) ?_
        exact J _ v5 he
def WrP (D0 : mx_Mem) (t : Nat) (ys : List Nat) : Option Value → mx_Mem → Prop := fun rv D' => rv = none ∧ FrW t D0 D' ∧ KY D' t ys
def KZ (D : mx_Mem) (t : Nat) (ys : List Nat) : Prop := KY D t ys ∧ ys.length ≤ 52 ∧ ∀ w ∈ ys, w < 2000
def WrQ (D0 : mx_Mem) (t : Nat) (ys : List Nat) : Option Value → mx_Mem → Prop := fun rv D' => rv = none ∧ FrW t D0 D' ∧ KZ D' t ys
set_option maxHeartbeats 4000000 in
set_option maxRecDepth 100000 in
theorem lp_Mo_wr {G : mx_G} {d : Nat} {S : List mx_Sh} {D0 : mx_Mem} {t str : Nat} {bw : Bool} {es : List ps_E} (hS : SM S) (ht : t < 12) (hst : str ≤ 4) (h12 : es.length ≤ 12) (hbd : ∀ e ∈ es, ∀ k, ps_lv e k < 2000) : ∀ (m lv : Nat) (D : mx_Mem) (v4 v5 v6 : Option Value), lv ≤ str → str - lv = m → FrW t D0 D → D 92 = D0 92 → D 80 13 = nI str → D 80 15 = bI bw → (D 80 19 = nI es.length ∧ ElM (D 90) es) → KA D t (ps_key bw es lv) → EV G d m_Mo_write 9 [some (.ref 80), some (.int (nI t)), some (.int (nI (ps_key bw es lv).length)), some (.int (nI lv)), v4, v5, v6] [] S D S (WrP D0 t (ps_key bw es str)) := by
  obtain ⟨hm0, hm1, hm2, hm3, hm4, hm5, hm6, hm7, hm8, hm9, hm10, hm11, hm12⟩ := id hS
  intro m
  induction m with
  | zero =>
    intro lv D v4 v5 v6 h1 h2 hF h92 hs hb hE hK
    have e : lv = str := by omega
    subst e
    have hkl := ps_key_len bw es lv
    refine EV.iload_n d_Mo_write_9 rfl ?_
    refine EV.aload_n d_Mo_write_10 rfl ?_
    refine EV.getI fl_Mo_34 d_Mo_write_11 (by first | assumption | rfl) rfl ?_
    refine EV.icmp_geN (tgt := 118) d_Mo_write_14 (by decide) rfl hs (by omega) (by omega) (fun _ => ?_) (fun h => absurd h (by omega))
    refine EV.aload_n d_Mo_write_118 rfl ?_
    refine EV.getR fl_Mo_47 d_Mo_write_119 (by first | assumption | rfl) rfl ?_
    refine EV.iload_n d_Mo_write_122 rfl ?_
    refine EV.iload_n d_Mo_write_123 rfl ?_
    refine EV.iastN d_Mo_write_124 (by first | assumption | rfl) rfl rfl (by omega) (by first | decide | omega) ?_
    exact EV.return_ d_Mo_write_125 rfl ⟨rfl, ⟨⟨fun q q0 q1 q2 q3 q4 => by rw [mx_w_ne _ _ _ q4]; exact hF.1.1 q q0 q1 q2 q3 q4, fun j j0 j1 j2 => by rw [mx_w_ne _ _ _ (by omega)]; exact hF.1.2 j j0 j1 j2⟩, fun i hi => by rw [mx_w_ne _ _ _ (by omega)]; exact hF.2.1 i hi, fun u hu => by rw [mx_w_eq]; unfold upd; rw [if_neg hu]; exact hF.2.2 u hu⟩, by rw [mx_w_eq]; simp [upd], fun j w hw => by rw [mx_w_ne _ _ _ (by omega)]; exact hK j w hw⟩
  | succ m ih =>
    intro lv D v4 v5 v6 h1 h2 hF h92 hs hb hE hK
    have hkl := ps_key_len bw es lv
    have hkl2 : lv * (es.length + 1) ≤ 3 * 13 := Nat.mul_le_mul (by omega) (by omega)
    refine EV.iload_n d_Mo_write_9 rfl ?_
    refine EV.aload_n d_Mo_write_10 rfl ?_
    refine EV.getI fl_Mo_34 d_Mo_write_11 (by first | assumption | rfl) rfl ?_
    refine EV.icmp_geN (tgt := 118) d_Mo_write_14 (by decide) rfl hs (by omega) (by omega) (fun h => absurd h (by omega)) (fun _ => ?_)
    refine EV.iconst (v := nI 0) d_Mo_write_17 (by decide) ?_
    refine EV.istore d_Mo_write_18 (by decide) ?_
    have J := lp_Mo_wr1 (G := G) (d := d) (D0 := D) (t := t) (lv := lv) (bw := bw) (es := es) (pre := ps_key bw es lv) (Post := WrP D0 t (ps_key bw es str)) hS ht (by omega) h12 hbd (by omega) hE hb ?_ es.length 0 D v5 v6 (by omega) rfl ⟨⟨fun _ _ _ _ _ _ => rfl, fun _ _ _ _ => rfl⟩, fun _ _ => rfl, fun _ _ => rfl⟩ rfl rfl rfl (by simpa [ps_nz] using hK)
    · rw [List.take_zero, show ps_nz lv [] = [] from rfl, List.append_nil] at J
      exact J
    · intro D2 w4 w5 w6 g1 g92 g80 g90 gK
      have hnl := ps_nz_len lv (ps_ro bw es lv)
      rw [ps_ro_len] at hnl
      have hpl : (ps_key bw es lv ++ ps_nz lv (ps_ro bw es lv)).length = (ps_key bw es lv).length + (ps_nz lv (ps_ro bw es lv)).length := List.length_append
      have hkn : ps_key bw es (lv + 1) = (ps_key bw es lv ++ ps_nz lv (ps_ro bw es lv)) ++ [0] := by rw [ps_key, ps_row_ro, List.append_assoc]
      refine EV.aload_n d_Mo_write_97 rfl ?_
      refine EV.getR fl_Mo_44 d_Mo_write_98 (by first | assumption | rfl) rfl ?_
      refine EV.bipush (v := nI 64) d_Mo_write_101 (by decide) ?_
      refine EV.iload_n d_Mo_write_103 rfl ?_
      refine EV.imul d_Mo_write_104 ?_
      refine EV.iload_n d_Mo_write_105 rfl ?_
      refine EV.iadd d_Mo_write_106 ?_
      refine EV.iconst (v := nI 0) d_Mo_write_107 (by decide) ?_
      refine EV.iastN d_Mo_write_108 (by first | assumption | rfl) rfl (show _ = nI (64 * t + (ps_key bw es lv ++ ps_nz lv (ps_ro bw es lv)).length) from by rw [pk_mul, nI_add]) (by omega) (by first | decide | omega) ?_
      refine EV.iincN d_Mo_write_109 rfl (by decide) ?_
      refine EV.iincN d_Mo_write_112 rfl (by decide) ?_
      refine EV.goto (tgt := 9) d_Mo_write_115 (by decide) ?_
      have J2 := ih (lv + 1) (mx_w D2 91 (64 * t + (ps_key bw es lv ++ ps_nz lv (ps_ro bw es lv)).length) (nI 0)) w4 w5 w6 (by omega) (by omega) ⟨⟨fun q q0 q1 q2 q3 q4 => by rw [mx_w_ne _ _ _ q3]; exact (g1.1.1 q q0 q1 q2 q3 q4).trans (hF.1.1 q q0 q1 q2 q3 q4), fun j j0 j1 j2 => by rw [mx_w_ne _ _ _ (by omega)]; exact (g1.1.2 j j0 j1 j2).trans (hF.1.2 j j0 j1 j2)⟩, fun i hi => by rw [mx_w_eq]; unfold upd; rw [if_neg (by omega)]; exact (g1.2.1 i hi).trans (hF.2.1 i hi), fun u hu => by rw [mx_w_ne _ _ _ (by omega)]; exact (g1.2.2 u hu).trans (hF.2.2 u hu)⟩ (by rw [mx_w_ne _ _ _ (by omega)]; exact g92.trans h92) (by rw [mx_w_ne _ _ _ (by omega), g80]; exact hs) (by rw [mx_w_ne _ _ _ (by omega), g80]; exact hb) (by rw [mx_w_ne _ _ _ (by omega), mx_w_ne _ _ _ (by omega), g80, g90]; exact hE) (by rw [hkn]; exact KA_snoc gK)
      rw [hkn, List.length_append (bs := [0]), List.length_singleton] at J2
      exact J2
set_option maxHeartbeats 4000000 in
set_option maxRecDepth 100000 in
theorem sp_Mo_write {G : mx_G} {d : Nat} {S : List mx_Sh} {D0 : mx_Mem} {tb : ps_T} {sh bw : Bool} {t str : Nat} {xs : List Nat} (hS : SM S) (hT : TC D0 tb sh) (hst : D0 80 13 = nI str) (h4 : str ≤ 4) (hbw : D0 80 15 = bI bw) (ht : t < 12) (hx : TX D0 t xs) (htx : ps_tx tb xs) : EV G (d + 3) m_Mo_write 0 (mx_lc0 m_Mo_write [.ref 80, .int (nI t)]) [] S D0 S (WrQ D0 t (ps_kt tb sh bw str xs)) := by
  obtain ⟨hm0, hm1, hm2, hm3, hm4, hm5, hm6, hm7, hm8, hm9, hm10, hm11, hm12⟩ := id hS
  show EV _ _ _ _ [some (.ref 80), some (.int (nI t)), none, none, none, none, none] [] _ _ _ _
  refine EV.aload_n d_Mo_write_0 rfl ?_
  refine EV.iload_n d_Mo_write_1 rfl ?_
  refine EV.V1 cv_Mo_137 d_Mo_write_2 (by first | assumption | rfl) (sp_Mo_findElements hS hT ht hx htx) ⟨Nat.le_refl _, Nat.le_refl _⟩ rfl rfl (Nat.le_of_ble_eq_true rfl) (fun rv D1 hp => ?_)
  obtain ⟨rfl, q1, es, q2, q3, q4, q5⟩ := hp
  refine EV.iconst (v := nI 0) d_Mo_write_5 (by decide) ?_
  refine EV.istore_n d_Mo_write_6 (by decide) ?_
  refine EV.iconst (v := nI 0) d_Mo_write_7 (by decide) ?_
  refine EV.istore_n d_Mo_write_8 (by decide) ?_
  have hke : ps_kt tb sh bw str xs = ps_key bw es str := by unfold ps_kt; exact ps_key_fl (fun k => (q5 k).symm) str
  rw [hke]
  refine EV.post (fun rv D2 h => ?_) (lp_Mo_wr hS ht h4 q3 q4 str 0 D1 none none none (by omega) rfl ⟨⟨fun _ _ _ _ _ _ => rfl, fun _ _ _ _ => rfl⟩, fun _ _ => rfl, fun _ _ => rfl⟩ rfl (by rw [q1.2 13 (by omega) (by omega) (by omega)]; exact hst) (by rw [q1.2 15 (by omega) (by omega) (by omega)]; exact hbw) q2 (fun j w hw => by simp [ps_key] at hw))
  obtain ⟨h0, h1, h2⟩ := h
  exact ⟨h0, ⟨⟨fun q q0 a b c d => (h1.1.1 q q0 a b c d).trans (q1.1 q q0 a b), fun j a b c => (h1.1.2 j a b c).trans (q1.2 j a b c)⟩, fun i hi => (h1.2.1 i hi).trans (by rw [q1.1 91 (by omega) (by omega) (by omega)]), fun u hu => (h1.2.2 u hu).trans (by rw [q1.1 92 (by omega) (by omega) (by omega)])⟩, h2, Nat.le_trans (ps_key_len bw es str) (Nat.le_trans (Nat.mul_le_mul h4 (show es.length + 1 ≤ 13 by omega)) (by decide)), fun w hw => ps_key_lt q4 str w hw⟩
