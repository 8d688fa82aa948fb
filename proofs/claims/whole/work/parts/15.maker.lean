def ShM (S : List mx_Sh) (m t : Nat) : Prop := S[m]? = some (.inl (2, [some (some t), some (some (m + 1)), some (some (m + 2)), some (some (m + 3)), none, none, none, none, none, none])) ∧ S[m + 1]? = some (.inr (.inl (1, 12))) ∧ S[m + 2]? = some (.inr (.inl (1, 12))) ∧ S[m + 3]? = some (.inr (.inr (4, [some (m + 4), some (m + 5), some (m + 6), some (m + 7)]))) ∧ S[m + 4]? = some (.inr (.inl (0, 12))) ∧ S[m + 5]? = some (.inr (.inl (0, 12))) ∧ S[m + 6]? = some (.inr (.inl (0, 12))) ∧ S[m + 7]? = some (.inr (.inl (0, 12)))
def WE (D : mx_Mem) (m : Nat) (es : List ps_E) : Prop := D m 5 = nI es.length ∧ ∀ (i : Nat) (e : ps_E), es[i]? = some e → D (m + 4) i = nI e.1 ∧ D (m + 5) i = nI e.2.1 ∧ D (m + 6) i = nI e.2.2.1 ∧ D (m + 7) i = nI e.2.2.2
def TBw (D : mx_Mem) (t : Nat) (tb : ps_T) : Prop := D t 5 = nI tb.length ∧ TBf 256 (D (t + 1)) (D (t + 2)) tb ∧ ∀ j, j < tb.length → D (t + 3) j = nI (ps_wt (ps_stp tb) (j + 1)).1 ∧ D (t + 4) j = nI (ps_wt (ps_stp tb) (j + 1)).2.1 ∧ D (t + 5) j = nI (ps_wt (ps_stp tb) (j + 1)).2.2
/-- which cells the making of elements may change -/
def FrE (m : Nat) (D D' : mx_Mem) : Prop := ∀ k, ¬ k = m → ¬ k = m + 4 → ¬ k = m + 5 → ¬ k = m + 6 → ¬ k = m + 7 → D' k = D k
theorem bI_ft (b : Bool) : fits .boolean (.int (bI b)) = true := by cases b <;> rfl
theorem WE_snoc {D D' : mx_Mem} {m : Nat} {es : List ps_E} {e : ps_E} (h : WE D m es) (h5 : D' m 5 = nI (es.length + 1)) (h1 : D' (m + 4) = upd (D (m + 4)) es.length (nI e.1)) (h2 : D' (m + 5) = upd (D (m + 5)) es.length (nI e.2.1)) (h3 : D' (m + 6) = upd (D (m + 6)) es.length (nI e.2.2.1)) (h4 : D' (m + 7) = upd (D (m + 7)) es.length (nI e.2.2.2)) : WE D' m (es ++ [e]) := by
  refine ⟨by rw [h5, List.length_append]; rfl, fun i x hx => ?_⟩
  rw [h1, h2, h3, h4]
  unfold upd
  by_cases q : i = es.length
  · subst q
    simp at hx
    subst hx
    simp
  · have hl : i < es.length := by
      have := (List.getElem?_eq_some_iff.mp hx).1
      rw [List.length_append, List.length_singleton] at this
      omega
    rw [List.getElem?_append_left hl] at hx
    simp only [q, if_false]
    exact h.2 i x hx
theorem ps_var_enc {b : Nat} (hb : b = 128 ∨ b = 256) {s : List Nat} (h : ps_so s) : ps_var (ps_enc b s) = ps_isv s := by
  obtain ⟨h1, h2, h3⟩ := h
  match s, h1, h2, h3 with
  | [a], _, _, h3 =>
    have e1 : ps_enc b [a] = a := by simp [ps_enc]
    rw [e1]
    unfold ps_var ps_isv
    simp
  | a :: c :: r, _, _, h3 =>
    have h4 := h3 a (by simp)
    have h5 := h3 c (by simp)
    have h6 : 128 ≤ ps_enc b (a :: c :: r) := by
      simp only [ps_enc]
      have : b * 1 ≤ b * (c + b * ps_enc b r) := Nat.mul_le_mul_left b (by omega)
      omega
    unfold ps_var ps_isv
    have e1 : ¬ ps_enc b (a :: c :: r) = 32 := by omega
    have e2 : ¬ ps_enc b (a :: c :: r) = 45 := by omega
    simp [e1, e2]
set_option maxHeartbeats 4000000 in
set_option maxRecDepth 100000 in
theorem sp_Km_shape {G : mx_G} {d : Nat} {S : List mx_Sh} {D : mx_Mem} {m t x : Nat} {b1 b2 : Bool} (hM : ShM S m t) : EV G d m_Km_shape 0 (mx_lc0 m_Km_shape [.ref m, .int (nI x), .int (bI b1), .int (bI b2)]) [] S D S (fun rv D' => rv = none ∧ (∀ k, ¬ k = m → D' k = D k) ∧ D' m = upd (upd (upd (D m) 7 (nI x)) 8 (bI b1)) 9 (bI b2)) := by
  obtain ⟨hm0, hm1, hm2, hm3, hm4, hm5, hm6, hm7⟩ := id hM
  show EV _ _ _ _ [some (.ref m), some (.int (nI x)), some (.int (bI b1)), some (.int (bI b2))] [] _ _ _ _
  refine EV.aload_n d_Km_shape_0 rfl ?_
  refine EV.iload_n d_Km_shape_1 rfl ?_
  refine EV.putI fl_Km_27 d_Km_shape_2 (by first | assumption | rfl) rfl rfl rfl ?_
  refine EV.aload_n d_Km_shape_5 rfl ?_
  refine EV.iload_n d_Km_shape_6 rfl ?_
  refine EV.putI fl_Km_31 d_Km_shape_7 (by first | assumption | rfl) rfl (bI_nr _) (bI_ft _) ?_
  refine EV.aload_n d_Km_shape_10 rfl ?_
  refine EV.iload_n d_Km_shape_11 rfl ?_
  refine EV.putI fl_Km_35 d_Km_shape_12 (by first | assumption | rfl) rfl (bI_nr _) (bI_ft _) ?_
  exact EV.return_ d_Km_shape_15 rfl ⟨rfl, fun k k1 => by simp [mx_w, va_up, k1], by simp [mx_w, va_up]⟩
set_option maxHeartbeats 4000000 in
set_option maxRecDepth 100000 in
theorem sp_Km_mustPass {G : mx_G} {d : Nat} {S : List mx_Sh} {D : mx_Mem} {c b : Nat} (hc : c < 2 ^ 31) (hb : b < 2 ^ 31) : EV G (d + 1) m_Km_mustPass 0 (mx_lc0 m_Km_mustPass [.int (nI c), .int (nI b)]) [] S D S (RI (bI (ps_must c b)) D) := by
  show EV _ _ _ _ [some (.int (nI c)), some (.int (nI b))] [] _ _ _ _
  refine EV.iload_n d_Km_mustPass_0 rfl ?_
  refine EV.T1 cs_Km_65 d_Km_mustPass_1 (sp_To_isMark hc) ⟨Nat.le_refl _, Nat.le_refl _⟩ rfl rfl (Nat.le_of_ble_eq_true rfl) (fun rv D1 hp => ?_)
  obtain ⟨rfl, hD⟩ := hp
  obtain rfl := hD.symm
  refine EV.if_eqB (tgt := 29) d_Km_mustPass_4 (by decide) (fun h4 => ?_) (fun h4 => ?_)
  · refine EV.iconst (v := nI 0) d_Km_mustPass_29 (by decide) ?_
    exact EV.ireturn d_Km_mustPass_30 ⟨_, rfl, rfl⟩ ⟨by rw [bI_f (by simp [ps_must, h4])], rfl⟩
  refine EV.iload_n d_Km_mustPass_7 rfl ?_
  refine EV.T1 cs_Km_65 d_Km_mustPass_8 (sp_To_isMark hb) ⟨Nat.le_refl _, Nat.le_refl _⟩ rfl rfl (Nat.le_of_ble_eq_true rfl) (fun rv D1 hp => ?_)
  obtain ⟨rfl, hD⟩ := hp
  obtain rfl := hD.symm
  refine EV.if_eqB (tgt := 29) d_Km_mustPass_11 (by decide) (fun h11 => ?_) (fun h11 => ?_)
  · refine EV.iconst (v := nI 0) d_Km_mustPass_29 (by decide) ?_
    exact EV.ireturn d_Km_mustPass_30 ⟨_, rfl, rfl⟩ ⟨by rw [bI_f (by simp [ps_must, h11])], rfl⟩
  refine EV.iload_n d_Km_mustPass_14 rfl ?_
  refine EV.T1 cs_Km_69 d_Km_mustPass_15 (sp_To_classOf hc) ⟨Nat.le_refl _, Nat.le_refl _⟩ rfl rfl (Nat.le_of_ble_eq_true rfl) (fun rv D1 hp => ?_)
  obtain ⟨rfl, hD⟩ := hp
  obtain rfl := hD.symm
  refine EV.iload_n d_Km_mustPass_18 rfl ?_
  refine EV.T1 cs_Km_69 d_Km_mustPass_19 (sp_To_classOf hb) ⟨Nat.le_refl _, Nat.le_refl _⟩ rfl rfl (Nat.le_of_ble_eq_true rfl) (fun rv D1 hp => ?_)
  obtain ⟨rfl, hD⟩ := hp
  obtain rfl := hD.symm
  refine EV.icmp_geN (tgt := 29) d_Km_mustPass_22 (by decide) rfl rfl (by have := ps_cls_or c; omega) (by have := ps_cls_or b; omega) (fun h22 => ?_) (fun h22 => ?_)
  · refine EV.iconst (v := nI 0) d_Km_mustPass_29 (by decide) ?_
    exact EV.ireturn d_Km_mustPass_30 ⟨_, rfl, rfl⟩ ⟨by first | rw [bI_t (by simp [ps_must, h4, h11]; omega)] | rw [bI_f (by simp [ps_must, h4, h11]; omega)], rfl⟩
  · refine EV.iconst (v := nI 1) d_Km_mustPass_25 (by decide) ?_
    refine EV.goto (tgt := 30) d_Km_mustPass_26 (by decide) ?_
    exact EV.ireturn d_Km_mustPass_30 ⟨_, rfl, rfl⟩ ⟨by first | rw [bI_t (by simp [ps_must, h4, h11]; omega)] | rw [bI_f (by simp [ps_must, h4, h11]; omega)], rfl⟩
set_option maxHeartbeats 4000000 in
set_option maxRecDepth 100000 in
theorem sp_Km_addElement {G : mx_G} {d : Nat} {S : List mx_Sh} {D : mx_Mem} {m t w1 w2 w3 w4 : Nat} {sh : Bool} {es : List ps_E} (hM : ShM S m t) (hE : WE D m es) (hl : es.length < 12) (hsh : D m 8 = bI sh) : EV G d m_Km_addElement 0 (mx_lc0 m_Km_addElement [.ref m, .int (nI w1), .int (nI w2), .int (nI w3), .int (nI w4)]) [] S D S (fun rv D' => rv = none ∧ FrE m D D' ∧ (∀ j, ¬ j = 5 → D' m j = D m j) ∧ WE D' m (es ++ [(w1, w2, w3, if sh then w4 else 0)])) := by
  obtain ⟨hm0, hm1, hm2, hm3, hm4, hm5, hm6, hm7⟩ := id hM
  show EV _ _ _ _ [some (.ref m), some (.int (nI w1)), some (.int (nI w2)), some (.int (nI w3)), some (.int (nI w4))] [] _ _ _ _
  refine EV.aload_n d_Km_addElement_0 rfl ?_
  refine EV.getI fl_Km_73 d_Km_addElement_1 (by first | assumption | rfl) rfl ?_
  refine EV.bipush (v := nI 12) d_Km_addElement_4 (by decide) ?_
  refine EV.icmp_ltN (tgt := 10) d_Km_addElement_6 (by decide) hE.1 rfl (by omega) (by omega) (fun h6 => ?_) (fun h6 => ?_)
  · refine EV.aload_n d_Km_addElement_10 rfl ?_
    refine EV.getR fl_Km_24 d_Km_addElement_11 (by first | assumption | rfl) rfl ?_
    refine EV.iconst (v := nI 0) d_Km_addElement_14 (by decide) ?_
    refine EV.aaldN d_Km_addElement_15 (by first | assumption | rfl) rfl rfl rfl (by decide) rfl ?_
    refine EV.aload_n d_Km_addElement_16 rfl ?_
    refine EV.getI fl_Km_73 d_Km_addElement_17 (by first | assumption | rfl) rfl ?_
    refine EV.iload_n d_Km_addElement_20 rfl ?_
    refine EV.iastN d_Km_addElement_21 (by first | assumption | rfl) rfl hE.1 (by omega) (by first | decide | omega) ?_
    refine EV.aload_n d_Km_addElement_22 rfl ?_
    refine EV.getR fl_Km_24 d_Km_addElement_23 (by first | assumption | rfl) rfl ?_
    refine EV.iconst (v := nI 1) d_Km_addElement_26 (by decide) ?_
    refine EV.aaldN d_Km_addElement_27 (by first | assumption | rfl) rfl rfl rfl (by decide) rfl ?_
    refine EV.aload_n d_Km_addElement_28 rfl ?_
    refine EV.getI fl_Km_73 d_Km_addElement_29 (by first | assumption | rfl) rfl ?_
    refine EV.iload_n d_Km_addElement_32 rfl ?_
    refine EV.iastN d_Km_addElement_33 (by first | assumption | rfl) rfl (by simp [mx_w, va_up]; exact hE.1) (by omega) (by first | decide | omega) ?_
    refine EV.aload_n d_Km_addElement_34 rfl ?_
    refine EV.getR fl_Km_24 d_Km_addElement_35 (by first | assumption | rfl) rfl ?_
    refine EV.iconst (v := nI 2) d_Km_addElement_38 (by decide) ?_
    refine EV.aaldN d_Km_addElement_39 (by first | assumption | rfl) rfl rfl rfl (by decide) rfl ?_
    refine EV.aload_n d_Km_addElement_40 rfl ?_
    refine EV.getI fl_Km_73 d_Km_addElement_41 (by first | assumption | rfl) rfl ?_
    refine EV.iload_n d_Km_addElement_44 rfl ?_
    refine EV.iastN d_Km_addElement_45 (by first | assumption | rfl) rfl (by simp [mx_w, va_up]; exact hE.1) (by omega) (by first | decide | omega) ?_
    refine EV.aload_n d_Km_addElement_46 rfl ?_
    refine EV.getR fl_Km_24 d_Km_addElement_47 (by first | assumption | rfl) rfl ?_
    refine EV.iconst (v := nI 3) d_Km_addElement_50 (by decide) ?_
    refine EV.aaldN d_Km_addElement_51 (by first | assumption | rfl) rfl rfl rfl (by decide) rfl ?_
    refine EV.aload_n d_Km_addElement_52 rfl ?_
    refine EV.getI fl_Km_73 d_Km_addElement_53 (by first | assumption | rfl) rfl ?_
    refine EV.aload_n d_Km_addElement_56 rfl ?_
    refine EV.getI fl_Km_31 d_Km_addElement_57 (by first | assumption | rfl) rfl ?_
    refine EV.top (y := bI sh) (by simp [mx_w, va_up]; exact hsh) ?_
    refine EV.if_eqB (tgt := 68) d_Km_addElement_60 (by decide) (fun h60 => ?_) (fun h60 => ?_)
    · refine EV.iconst (v := nI 0) d_Km_addElement_68 (by decide) ?_
      have eb : (if sh = true then w4 else 0) = 0 := by rw [h60]; rfl
      rw [eb]
      refine EV.iastN d_Km_addElement_69 (by first | assumption | rfl) rfl (by simp [mx_w, va_up]; exact hE.1) (by omega) (by first | decide | omega) ?_
      refine EV.aload_n d_Km_addElement_70 rfl ?_
      refine EV.dup d_Km_addElement_71 rfl ?_
      refine EV.getI fl_Km_73 d_Km_addElement_72 (by first | assumption | rfl) rfl ?_
      refine EV.iconst (v := nI 1) d_Km_addElement_75 (by decide) ?_
      refine EV.iadd d_Km_addElement_76 ?_
      refine EV.top (y := nI (es.length + 1)) (by simp [mx_w, va_up]; rw [hE.1]; exact nI_1 _) ?_
      refine EV.putI fl_Km_73 d_Km_addElement_77 (by first | assumption | rfl) rfl rfl rfl ?_
      exact EV.return_ d_Km_addElement_80 rfl ⟨rfl, fun k k0 k4 k5 k6 k7 => by simp [mx_w, va_up, k0, k4, k5, k6, k7], fun j hj => by simp [mx_w, va_up, upd, hj], WE_snoc hE (by simp [mx_w, va_up, upd]) (by simp [mx_w, va_up]) (by simp [mx_w, va_up]) (by simp [mx_w, va_up]) (by simp [mx_w, va_up])⟩
    · refine EV.iload d_Km_addElement_63 rfl ?_
      refine EV.goto (tgt := 69) d_Km_addElement_65 (by decide) ?_
      have eb : (if sh = true then w4 else 0) = w4 := by rw [h60]; rfl
      rw [eb]
      refine EV.iastN d_Km_addElement_69 (by first | assumption | rfl) rfl (by simp [mx_w, va_up]; exact hE.1) (by omega) (by first | decide | omega) ?_
      refine EV.aload_n d_Km_addElement_70 rfl ?_
      refine EV.dup d_Km_addElement_71 rfl ?_
      refine EV.getI fl_Km_73 d_Km_addElement_72 (by first | assumption | rfl) rfl ?_
      refine EV.iconst (v := nI 1) d_Km_addElement_75 (by decide) ?_
      refine EV.iadd d_Km_addElement_76 ?_
      refine EV.top (y := nI (es.length + 1)) (by simp [mx_w, va_up]; rw [hE.1]; exact nI_1 _) ?_
      refine EV.putI fl_Km_73 d_Km_addElement_77 (by first | assumption | rfl) rfl rfl rfl ?_
      exact EV.return_ d_Km_addElement_80 rfl ⟨rfl, fun k k0 k4 k5 k6 k7 => by simp [mx_w, va_up, k0, k4, k5, k6, k7], fun j hj => by simp [mx_w, va_up, upd, hj], WE_snoc hE (by simp [mx_w, va_up, upd]) (by simp [mx_w, va_up]) (by simp [mx_w, va_up]) (by simp [mx_w, va_up]) (by simp [mx_w, va_up])⟩
  · exfalso
    omega
set_option maxHeartbeats 4000000 in
set_option maxRecDepth 100000 in
theorem sp_Km_addMark {G : mx_G} {d : Nat} {S : List mx_Sh} {D : mx_Mem} {m t c : Nat} {sh v : Bool} {es : List ps_E} (hM : ShM S m t) (hE : WE D m es) (hl : es.length < 12) (hsh : D m 8 = bI sh) (hv : D m 6 = bI v) (hc : 48 ≤ c ∧ c < 128) : EV G (d + 1) m_Km_addMark 0 (mx_lc0 m_Km_addMark [.ref m, .int (nI c)]) [] S D S (fun rv D' => rv = none ∧ FrE m D D' ∧ (∀ j, ¬ j = 5 → D' m j = D m j) ∧ WE D' m (es ++ el_ms sh v [c])) := by
  obtain ⟨hm0, hm1, hm2, hm3, hm4, hm5, hm6, hm7⟩ := id hM
  show EV _ _ _ _ [some (.ref m), some (.int (nI c))] [] _ _ _ _
  refine EV.aload_n d_Km_addMark_0 rfl ?_
  refine EV.getI fl_Km_31 d_Km_addMark_1 (by first | assumption | rfl) rfl ?_
  refine EV.top hsh ?_
  refine EV.if_eqB (tgt := 14) d_Km_addMark_4 (by decide) (fun h4 => ?_) (fun h4 => ?_)
  · refine EV.aload_n d_Km_addMark_14 rfl ?_
    refine EV.iconst (v := nI 0) d_Km_addMark_15 (by decide) ?_
    refine EV.bipush (v := nI 100) d_Km_addMark_16 (by decide) ?_
    refine EV.iload_n d_Km_addMark_18 rfl ?_
    refine EV.iadd d_Km_addMark_19 ?_
    refine EV.bipush (v := nI 48) d_Km_addMark_20 (by decide) ?_
    refine EV.isub d_Km_addMark_22 ?_
    refine EV.top (y := nI (100 + c - 48)) (by rw [nI_add]; exact pk_sub (by omega)) ?_
    refine EV.iconst (v := nI 1) d_Km_addMark_23 (by decide) ?_
    refine EV.iconst (v := nI 0) d_Km_addMark_24 (by decide) ?_
    refine EV.V4 cv_Km_126 d_Km_addMark_25 (by first | assumption | rfl) (sp_Km_addElement (w1 := 0) (w2 := 100 + c - 48) (w3 := 1) (w4 := 0) hM hE hl hsh) ⟨Nat.le_refl _, Nat.le_refl _⟩ rfl rfl (Nat.le_of_ble_eq_true rfl) (fun rv D1 hp => ?_)
    obtain ⟨rfl, q1, q2, q3⟩ := hp
    exact EV.return_ d_Km_addMark_28 rfl ⟨rfl, q1, q2, by rw [show el_ms sh v [c] = [(0, 100 + c - 48, 1, if sh then 0 else 0)] from by simp [el_ms, el_m, h4]]; exact q3⟩
  refine EV.aload_n d_Km_addMark_7 rfl ?_
  refine EV.getI fl_Km_76 d_Km_addMark_8 (by first | assumption | rfl) rfl ?_
  refine EV.top hv ?_
  refine EV.if_neB (tgt := 28) d_Km_addMark_11 (by decide) (fun h11 => ?_) (fun h11 => ?_)
  · exact EV.return_ d_Km_addMark_28 rfl ⟨rfl, fun _ _ _ _ _ _ => rfl, fun _ _ => rfl, by rw [show el_ms sh v [c] = [] from by simp [el_ms, h4, h11], List.append_nil]; exact hE⟩
  · refine EV.aload_n d_Km_addMark_14 rfl ?_
    refine EV.iconst (v := nI 0) d_Km_addMark_15 (by decide) ?_
    refine EV.bipush (v := nI 100) d_Km_addMark_16 (by decide) ?_
    refine EV.iload_n d_Km_addMark_18 rfl ?_
    refine EV.iadd d_Km_addMark_19 ?_
    refine EV.bipush (v := nI 48) d_Km_addMark_20 (by decide) ?_
    refine EV.isub d_Km_addMark_22 ?_
    refine EV.top (y := nI (100 + c - 48)) (by rw [nI_add]; exact pk_sub (by omega)) ?_
    refine EV.iconst (v := nI 1) d_Km_addMark_23 (by decide) ?_
    refine EV.iconst (v := nI 0) d_Km_addMark_24 (by decide) ?_
    refine EV.V4 cv_Km_126 d_Km_addMark_25 (by first | assumption | rfl) (sp_Km_addElement (w1 := 0) (w2 := 100 + c - 48) (w3 := 1) (w4 := 0) hM hE hl hsh) ⟨Nat.le_refl _, Nat.le_refl _⟩ rfl rfl (Nat.le_of_ble_eq_true rfl) (fun rv D1 hp => ?_)
    obtain ⟨rfl, q1, q2, q3⟩ := hp
    exact EV.return_ d_Km_addMark_28 rfl ⟨rfl, q1, q2, by rw [show el_ms sh v [c] = [(0, 100 + c - 48, 1, if sh then 0 else 0)] from by simp [el_ms, el_m, h11]]; exact q3⟩
set_option maxHeartbeats 4000000 in
set_option maxRecDepth 100000 in
theorem sp_Km_addEntry {G : mx_G} {d : Nat} {S : List mx_Sh} {D : mx_Mem} {m t i : Nat} {sh : Bool} {es : List ps_E} {tb : ps_T} {s : List Nat} (hM : ShM S m t) (hT : ShT S t) (hmt : t + 5 < m ∨ m + 7 < t) (hB : TBw D t tb) (hE : WE D m es) (hl : es.length < 12) (hsh : D m 8 = bI sh) (hi : ps_idx tb s = some i) (hso : ps_so s) (hlen : tb.length ≤ 30) : EV G (d + 1) m_Km_addEntry 0 (mx_lc0 m_Km_addEntry [.ref m, .int (nI i)]) [] S D S (fun rv D' => rv = none ∧ FrE m D D' ∧ (∀ j, ¬ j = 5 → ¬ j = 6 → D' m j = D m j) ∧ D' m 6 = bI (ps_isv s) ∧ WE D' m (es ++ [el_e tb sh s])) := by
  obtain ⟨hm0, hm1, hm2, hm3, hm4, hm5, hm6, hm7⟩ := id hM
  obtain ⟨hs0, hs1, hs2, hs3, hs4, hs5⟩ := id hT
  have hil := ps_idx_lt hi
  obtain ⟨⟨e, he, hes⟩, -⟩ := ps_idx_some.mp hi
  have hev : D (t + 1) i = nI (ps_enc 256 s) := by rw [← hes]; exact (hB.2.1 i e he).1
  have hb := ps_enc_b (Or.inr rfl) hso
  show EV _ _ _ _ [some (.ref m), some (.int (nI i))] [] _ _ _ _
  refine EV.aload_n d_Km_addEntry_0 rfl ?_
  refine EV.aload_n d_Km_addEntry_1 rfl ?_
  refine EV.getR fl_Km_9 d_Km_addEntry_2 (by first | assumption | rfl) rfl ?_
  refine EV.getR fl_Km_94 d_Km_addEntry_5 (by first | assumption | rfl) rfl ?_
  refine EV.iload_n d_Km_addEntry_8 rfl ?_
  refine EV.ialdN d_Km_addEntry_9 (by first | assumption | rfl) rfl rfl (by omega) (by first | decide | omega) ?_
  refine EV.top hev ?_
  refine EV.T1 cs_Km_120 d_Km_addEntry_10 (sp_To_isVariable (by omega)) ⟨Nat.le_refl _, Nat.le_refl _⟩ rfl rfl (Nat.le_of_ble_eq_true rfl) (fun rv D1 hp => ?_)
  obtain ⟨rfl, hD⟩ := hp
  obtain rfl := hD.symm
  rw [ps_var_enc (Or.inr rfl) hso]
  refine EV.putI fl_Km_76 d_Km_addEntry_13 (by first | assumption | rfl) rfl (bI_nr _) (bI_ft _) ?_
  refine EV.aload_n d_Km_addEntry_16 rfl ?_
  refine EV.getI fl_Km_31 d_Km_addEntry_17 (by first | assumption | rfl) rfl ?_
  refine EV.top (y := bI sh) (by simp [mx_w, va_up, upd]; exact hsh) ?_
  refine EV.if_eqB (tgt := 49) d_Km_addEntry_20 (by decide) (fun h20 => ?_) (fun h20 => ?_)
  · refine EV.aload_n d_Km_addEntry_49 rfl ?_
    refine EV.aload_n d_Km_addEntry_50 rfl ?_
    refine EV.getR fl_Km_9 d_Km_addEntry_51 (by first | assumption | rfl) rfl ?_
    refine EV.getR fl_Km_123 d_Km_addEntry_54 (by first | assumption | rfl) rfl ?_
    refine EV.iload_n d_Km_addEntry_57 rfl ?_
    refine EV.ialdN d_Km_addEntry_58 (by first | assumption | rfl) rfl rfl (by omega) (by first | decide | omega) ?_
    refine EV.top (y := nI (ps_wt (ps_stp tb) (i + 1)).1) (by simp [mx_w, va_up, show ¬ t + 3 = m by omega]; exact (hB.2.2 i hil).1) ?_
    refine EV.aload_n d_Km_addEntry_59 rfl ?_
    refine EV.getR fl_Km_9 d_Km_addEntry_60 (by first | assumption | rfl) rfl ?_
    refine EV.getR fl_Km_130 d_Km_addEntry_63 (by first | assumption | rfl) rfl ?_
    refine EV.iload_n d_Km_addEntry_66 rfl ?_
    refine EV.ialdN d_Km_addEntry_67 (by first | assumption | rfl) rfl rfl (by omega) (by first | decide | omega) ?_
    refine EV.top (y := nI (ps_wt (ps_stp tb) (i + 1)).2.1) (by simp [mx_w, va_up, show ¬ t + 4 = m by omega]; exact (hB.2.2 i hil).2.1) ?_
    refine EV.aload_n d_Km_addEntry_68 rfl ?_
    refine EV.getR fl_Km_9 d_Km_addEntry_69 (by first | assumption | rfl) rfl ?_
    refine EV.getR fl_Km_133 d_Km_addEntry_72 (by first | assumption | rfl) rfl ?_
    refine EV.iload_n d_Km_addEntry_75 rfl ?_
    refine EV.ialdN d_Km_addEntry_76 (by first | assumption | rfl) rfl rfl (by omega) (by first | decide | omega) ?_
    refine EV.top (y := nI (ps_wt (ps_stp tb) (i + 1)).2.2) (by simp [mx_w, va_up, show ¬ t + 5 = m by omega]; exact (hB.2.2 i hil).2.2) ?_
    refine EV.sipush (v := nI 1000) d_Km_addEntry_77 (by decide) ?_
    refine EV.V4 cv_Km_126 d_Km_addEntry_80 (by first | assumption | rfl) (sp_Km_addElement (sh := sh) (es := es) hM ⟨by simp [mx_w, va_up, upd]; exact hE.1, fun i e he => by simp [mx_w, va_up]; exact hE.2 i e he⟩ hl (by simp [mx_w, va_up, upd]; exact hsh)) ⟨Nat.le_refl _, Nat.le_refl _⟩ rfl rfl (Nat.le_of_ble_eq_true rfl) (fun rv D1 hp => ?_)
    obtain ⟨rfl, q1, q2, q3⟩ := hp
    exact EV.return_ d_Km_addEntry_83 rfl ⟨rfl, fun k k0 k4 k5 k6 k7 => (q1 k k0 k4 k5 k6 k7).trans (by simp [mx_w, va_up, k0]), fun j j5 j6 => (q2 j j5).trans (by simp [mx_w, va_up, upd, j6]), (q2 6 (by decide)).trans (by simp [mx_w, va_up, upd]), by
      have ee : el_e tb sh s = ((ps_wt (ps_stp tb) (i + 1)).1, (ps_wt (ps_stp tb) (i + 1)).2.1, (ps_wt (ps_stp tb) (i + 1)).2.2, if sh then 1000 else 0) := by
        unfold el_e ps_wof
        rw [hi, if_neg (by simp [*])]
        rfl
      rw [ee]
      exact q3⟩
  refine EV.aload_n d_Km_addEntry_23 rfl ?_
  refine EV.getI fl_Km_76 d_Km_addEntry_24 (by first | assumption | rfl) rfl ?_
  refine EV.top (y := bI (ps_isv s)) (by simp [mx_w, va_up, upd]) ?_
  refine EV.if_eqB (tgt := 49) d_Km_addEntry_27 (by decide) (fun h27 => ?_) (fun h27 => ?_)
  · refine EV.aload_n d_Km_addEntry_49 rfl ?_
    refine EV.aload_n d_Km_addEntry_50 rfl ?_
    refine EV.getR fl_Km_9 d_Km_addEntry_51 (by first | assumption | rfl) rfl ?_
    refine EV.getR fl_Km_123 d_Km_addEntry_54 (by first | assumption | rfl) rfl ?_
    refine EV.iload_n d_Km_addEntry_57 rfl ?_
    refine EV.ialdN d_Km_addEntry_58 (by first | assumption | rfl) rfl rfl (by omega) (by first | decide | omega) ?_
    refine EV.top (y := nI (ps_wt (ps_stp tb) (i + 1)).1) (by simp [mx_w, va_up, show ¬ t + 3 = m by omega]; exact (hB.2.2 i hil).1) ?_
    refine EV.aload_n d_Km_addEntry_59 rfl ?_
    refine EV.getR fl_Km_9 d_Km_addEntry_60 (by first | assumption | rfl) rfl ?_
    refine EV.getR fl_Km_130 d_Km_addEntry_63 (by first | assumption | rfl) rfl ?_
    refine EV.iload_n d_Km_addEntry_66 rfl ?_
    refine EV.ialdN d_Km_addEntry_67 (by first | assumption | rfl) rfl rfl (by omega) (by first | decide | omega) ?_
    refine EV.top (y := nI (ps_wt (ps_stp tb) (i + 1)).2.1) (by simp [mx_w, va_up, show ¬ t + 4 = m by omega]; exact (hB.2.2 i hil).2.1) ?_
    refine EV.aload_n d_Km_addEntry_68 rfl ?_
    refine EV.getR fl_Km_9 d_Km_addEntry_69 (by first | assumption | rfl) rfl ?_
    refine EV.getR fl_Km_133 d_Km_addEntry_72 (by first | assumption | rfl) rfl ?_
    refine EV.iload_n d_Km_addEntry_75 rfl ?_
    refine EV.ialdN d_Km_addEntry_76 (by first | assumption | rfl) rfl rfl (by omega) (by first | decide | omega) ?_
    refine EV.top (y := nI (ps_wt (ps_stp tb) (i + 1)).2.2) (by simp [mx_w, va_up, show ¬ t + 5 = m by omega]; exact (hB.2.2 i hil).2.2) ?_
    refine EV.sipush (v := nI 1000) d_Km_addEntry_77 (by decide) ?_
    refine EV.V4 cv_Km_126 d_Km_addEntry_80 (by first | assumption | rfl) (sp_Km_addElement (sh := sh) (es := es) hM ⟨by simp [mx_w, va_up, upd]; exact hE.1, fun i e he => by simp [mx_w, va_up]; exact hE.2 i e he⟩ hl (by simp [mx_w, va_up, upd]; exact hsh)) ⟨Nat.le_refl _, Nat.le_refl _⟩ rfl rfl (Nat.le_of_ble_eq_true rfl) (fun rv D1 hp => ?_)
    obtain ⟨rfl, q1, q2, q3⟩ := hp
    exact EV.return_ d_Km_addEntry_83 rfl ⟨rfl, fun k k0 k4 k5 k6 k7 => (q1 k k0 k4 k5 k6 k7).trans (by simp [mx_w, va_up, k0]), fun j j5 j6 => (q2 j j5).trans (by simp [mx_w, va_up, upd, j6]), (q2 6 (by decide)).trans (by simp [mx_w, va_up, upd]), by
      have ee : el_e tb sh s = ((ps_wt (ps_stp tb) (i + 1)).1, (ps_wt (ps_stp tb) (i + 1)).2.1, (ps_wt (ps_stp tb) (i + 1)).2.2, if sh then 1000 else 0) := by
        unfold el_e ps_wof
        rw [hi, if_neg (by simp [*])]
        rfl
      rw [ee]
      exact q3⟩
  · refine EV.aload_n d_Km_addEntry_30 rfl ?_
    refine EV.iconst (v := nI 0) d_Km_addEntry_31 (by decide) ?_
    refine EV.iconst (v := nI 0) d_Km_addEntry_32 (by decide) ?_
    refine EV.iconst (v := nI 0) d_Km_addEntry_33 (by decide) ?_
    refine EV.aload_n d_Km_addEntry_34 rfl ?_
    refine EV.getR fl_Km_9 d_Km_addEntry_35 (by first | assumption | rfl) rfl ?_
    refine EV.getR fl_Km_123 d_Km_addEntry_38 (by first | assumption | rfl) rfl ?_
    refine EV.iload_n d_Km_addEntry_41 rfl ?_
    refine EV.ialdN d_Km_addEntry_42 (by first | assumption | rfl) rfl rfl (by omega) (by first | decide | omega) ?_
    refine EV.top (y := nI (ps_wt (ps_stp tb) (i + 1)).1) (by simp [mx_w, va_up, show ¬ t + 3 = m by omega]; exact (hB.2.2 i hil).1) ?_
    refine EV.V4 cv_Km_126 d_Km_addEntry_43 (by first | assumption | rfl) (sp_Km_addElement (w1 := 0) (w2 := 0) (w3 := 0) (sh := sh) (es := es) hM ⟨by simp [mx_w, va_up, upd]; exact hE.1, fun i e he => by simp [mx_w, va_up]; exact hE.2 i e he⟩ hl (by simp [mx_w, va_up, upd]; exact hsh)) ⟨Nat.le_refl _, Nat.le_refl _⟩ rfl rfl (Nat.le_of_ble_eq_true rfl) (fun rv D1 hp => ?_)
    obtain ⟨rfl, q1, q2, q3⟩ := hp
    refine EV.goto (tgt := 83) d_Km_addEntry_46 (by decide) ?_
    exact EV.return_ d_Km_addEntry_83 rfl ⟨rfl, fun k k0 k4 k5 k6 k7 => (q1 k k0 k4 k5 k6 k7).trans (by simp [mx_w, va_up, k0]), fun j j5 j6 => (q2 j j5).trans (by simp [mx_w, va_up, upd, j6]), (q2 6 (by decide)).trans (by simp [mx_w, va_up, upd]), by
      have ee : el_e tb sh s = (0, 0, 0, if sh then (ps_wt (ps_stp tb) (i + 1)).1 else 0) := by
        unfold el_e ps_wof
        rw [hi, if_pos (by simp [*])]
        simp [h20]
      rw [ee]
      exact q3⟩
def ps_fl (tb : ps_T) (s : List Nat) (c : Nat) : Int32 := if s.length < 3 then (match ps_idx tb (s ++ [c]) with
    | some j => nI j
    | none => -1) else -1
set_option maxHeartbeats 4000000 in
set_option maxRecDepth 100000 in
theorem sp_Km_findLonger {G : mx_G} {d : Nat} {S : List mx_Sh} {D : mx_Mem} {m t i c : Nat} {tb : ps_T} {s : List Nat} (hM : ShM S m t) (hT : ShT S t) (hB : TBw D t tb) (hok : ps_ok tb) (hi : ps_idx tb s = some i) (hso : ps_so s) (hc : 0 < c ∧ c < 128) : EV G (d + 1) m_Km_findLonger 0 (mx_lc0 m_Km_findLonger [.ref m, .int (nI i), .int (nI c)]) [] S D S (RI (ps_fl tb s c) D) := by
  obtain ⟨hm0, hm1, hm2, hm3, hm4, hm5, hm6, hm7⟩ := id hM
  obtain ⟨hs0, hs1, hs2, hs3, hs4, hs5⟩ := id hT
  have hil := ps_idx_lt hi
  have hl30 := hok.2.1
  have hs1' := hso.1
  have hs2' := hso.2.1
  obtain ⟨⟨e, he, hes⟩, -⟩ := ps_idx_some.mp hi
  have hev : D (t + 1) i = nI (ps_enc 256 s) := by rw [← hes]; exact (hB.2.1 i e he).1
  have hb := ps_enc_b (Or.inr rfl) hso
  have hlt := ps_enc_lt (b := 256) (s := s) (fun x hx => by have := (hso.2.2 x hx).2; omega)
  show EV _ _ _ _ [some (.ref m), some (.int (nI i)), some (.int (nI c)), none, none] [] _ _ _ _
  refine EV.aload_n d_Km_findLonger_0 rfl ?_
  refine EV.getR fl_Km_9 d_Km_findLonger_1 (by first | assumption | rfl) rfl ?_
  refine EV.getR fl_Km_94 d_Km_findLonger_4 (by first | assumption | rfl) rfl ?_
  refine EV.iload_n d_Km_findLonger_7 rfl ?_
  refine EV.ialdN d_Km_findLonger_8 (by first | assumption | rfl) rfl rfl (by omega) (by first | decide | omega) ?_
  refine EV.top hev ?_
  refine EV.istore_n d_Km_findLonger_9 (by decide) ?_
  refine EV.iload_n d_Km_findLonger_10 rfl ?_
  refine EV.T1 cs_Km_98 d_Km_findLonger_11 (sp_To_lengthOf (by omega)) ⟨Nat.le_refl _, Nat.le_refl _⟩ rfl rfl (Nat.le_of_ble_eq_true rfl) (fun rv D1 hp => ?_)
  obtain ⟨rfl, hD⟩ := hp
  obtain rfl := hD.symm
  rw [ps_len_enc hso]
  refine EV.istore d_Km_findLonger_14 (by decide) ?_
  refine EV.iload d_Km_findLonger_16 rfl ?_
  refine EV.iconst (v := nI 3) d_Km_findLonger_18 (by decide) ?_
  refine EV.icmp_ltN (tgt := 26) d_Km_findLonger_19 (by decide) rfl rfl (by omega) (by omega) (fun h19 => ?_) (fun h19 => ?_)
  · refine EV.aload_n d_Km_findLonger_26 rfl ?_
    refine EV.getR fl_Km_9 d_Km_findLonger_27 (by first | assumption | rfl) rfl ?_
    refine EV.iload_n d_Km_findLonger_30 rfl ?_
    refine EV.iload d_Km_findLonger_31 rfl ?_
    refine EV.iload_n d_Km_findLonger_33 rfl ?_
    refine EV.T3 cs_Km_113 d_Km_findLonger_34 (sp_To_joined (by omega) hlt hc.2) ⟨Nat.le_refl _, Nat.le_refl _⟩ rfl rfl (Nat.le_of_ble_eq_true rfl) (fun rv D1 hp => ?_)
    obtain ⟨rfl, hD⟩ := hp
    obtain rfl := hD.symm
    rw [← ps_enc_snoc 256 s c]
    refine EV.V1 cv_Km_117 d_Km_findLonger_37 (by first | assumption | rfl) (sp_Ta_find hT hB.1 hok.2.1) ⟨Nat.le_refl _, Nat.le_refl _⟩ rfl rfl (Nat.le_of_ble_eq_true rfl) (fun rv D1 hp => ?_)
    obtain ⟨hD, r, rfl, hF⟩ := hp
    obtain rfl := hD.symm
    have hso2 : ps_so (s ++ [c]) := ⟨by simp, by simp; omega, fun x hx => by
      rcases List.mem_append.mp hx with h | h
      · exact hso.2.2 x h
      · simp at h; subst h; exact hc⟩
    have hr : r = ps_fl tb s c := by
      unfold ps_fl
      rw [if_pos (by omega)]
      rcases Fnd_idx (Or.inr rfl) (fun e he => (hok.1 e he).1) hB.2.1 hso2 hF with ⟨j, h1, -, h2⟩ | ⟨h1, h2⟩
      · rw [h1]; exact h2
      · rw [h1]; exact h2
    subst hr
    exact EV.ireturn d_Km_findLonger_40 ⟨_, rfl, rfl⟩ ⟨rfl, rfl⟩
  · refine EV.iconst (v := (-1)) d_Km_findLonger_22 (by decide) ?_
    refine EV.goto (tgt := 40) d_Km_findLonger_23 (by decide) ?_
    exact EV.ireturn d_Km_findLonger_40 ⟨_, rfl, rfl⟩ ⟨by unfold ps_fl; rw [if_neg (by omega)], rfl⟩
set_option maxHeartbeats 4000000 in
set_option maxRecDepth 100000 in
theorem lp_Km_isBlocked {G : mx_G} {d : Nat} {S : List mx_Sh} {D : mx_Mem} {m t c : Nat} {ps : List Nat} (hM : ShM S m t) (hP : ar (D (m + 2)) ps) (hl : ps.length ≤ 12) (hps : ∀ x ∈ ps, x < 2 ^ 31) (hc : c < 2 ^ 31) : ∀ n i : Nat, i ≤ ps.length → ps.length - i = n → (∀ j x, j < i → ps[j]? = some x → ¬ ps_cls x = ps_cls c) → EV G (d + 1) m_Km_isBlocked 2 [some (.ref m), some (.int (nI c)), some (.int (nI ps.length)), some (.int (nI i))] [] S D S (RI (bI (ps_blk ps c)) D) := by
  obtain ⟨hm0, hm1, hm2, hm3, hm4, hm5, hm6, hm7⟩ := id hM
  intro n
  induction n with
  | zero =>
    intro i h1 h2 h3
    refine EV.iload_n d_Km_isBlocked_2 rfl ?_
    refine EV.iload_n d_Km_isBlocked_3 rfl ?_
    refine EV.icmp_geN (tgt := 31) d_Km_isBlocked_4 (by decide) rfl rfl (by omega) (by omega) (fun h4 => ?_) (fun h4 => ?_)
    · refine EV.iconst (v := nI 0) d_Km_isBlocked_31 (by decide) ?_
      exact EV.ireturn d_Km_isBlocked_32 ⟨_, rfl, rfl⟩ ⟨by
        rw [bI_f]
        unfold ps_blk
        rw [List.any_eq_false]
        intro x hx
        obtain ⟨j, hj⟩ := List.getElem?_of_mem hx
        simpa using h3 j x (by have := (List.getElem?_eq_some_iff.mp hj).1; omega) hj, rfl⟩
    · exfalso
      omega
  | succ n ih =>
    intro i h1 h2 h3
    obtain ⟨x, hx⟩ : ∃ x, ps[i]? = some x := ⟨ps[i]'(by omega), List.getElem?_eq_getElem (by omega)⟩
    have hxv := hP i x hx
    have o1 := ps_cls_or x
    have o2 := ps_cls_or c
    refine EV.iload_n d_Km_isBlocked_2 rfl ?_
    refine EV.iload_n d_Km_isBlocked_3 rfl ?_
    refine EV.icmp_geN (tgt := 31) d_Km_isBlocked_4 (by decide) rfl rfl (by omega) (by omega) (fun h4 => ?_) (fun h4 => ?_)
    · exfalso
      omega
    · refine EV.aload_n d_Km_isBlocked_7 rfl ?_
      refine EV.getR fl_Km_19 d_Km_isBlocked_8 (by first | assumption | rfl) rfl ?_
      refine EV.iload_n d_Km_isBlocked_11 rfl ?_
      refine EV.caldN d_Km_isBlocked_12 (by first | assumption | rfl) rfl rfl (by omega) (by first | decide | omega) ?_
      refine EV.top hxv ?_
      refine EV.T1 cs_Km_69 d_Km_isBlocked_13 (sp_To_classOf (hps x (List.mem_of_getElem? hx))) ⟨Nat.le_refl _, Nat.le_refl _⟩ rfl rfl (Nat.le_of_ble_eq_true rfl) (fun rv D1 hp => ?_)
      obtain ⟨rfl, hD⟩ := hp
      obtain rfl := hD.symm
      refine EV.iload_n d_Km_isBlocked_16 rfl ?_
      refine EV.T1 cs_Km_69 d_Km_isBlocked_17 (sp_To_classOf hc) ⟨Nat.le_refl _, Nat.le_refl _⟩ rfl rfl (Nat.le_of_ble_eq_true rfl) (fun rv D1 hp => ?_)
      obtain ⟨rfl, hD⟩ := hp
      obtain rfl := hD.symm
      refine EV.icmp_neN (tgt := 25) d_Km_isBlocked_20 (by decide) rfl rfl (by omega) (by omega) (fun h20 => ?_) (fun h20 => ?_)
      · refine EV.iincN d_Km_isBlocked_25 rfl (by decide) ?_
        refine EV.goto (tgt := 2) d_Km_isBlocked_28 (by decide) ?_
        exact ih (i + 1) (by omega) (by omega) (fun j y hj hy => by
          rcases Nat.lt_or_ge j i with q | q
          · exact h3 j y q hy
          · rw [show j = i by omega, hx] at hy
            cases hy
            exact h20)
      · refine EV.iconst (v := nI 1) d_Km_isBlocked_23 (by decide) ?_
        exact EV.ireturn d_Km_isBlocked_24 ⟨_, rfl, rfl⟩ ⟨by rw [bI_t (b := ps_blk ps c) (List.any_eq_true.mpr ⟨x, List.mem_of_getElem? hx, by simpa using h20⟩)], rfl⟩
set_option maxHeartbeats 4000000 in
set_option maxRecDepth 100000 in
theorem sp_Km_isBlocked {G : mx_G} {d : Nat} {S : List mx_Sh} {D : mx_Mem} {m t c : Nat} {ps : List Nat} (hM : ShM S m t) (hP : ar (D (m + 2)) ps) (hl : ps.length ≤ 12) (hps : ∀ x ∈ ps, x < 2 ^ 31) (hc : c < 2 ^ 31) : EV G (d + 1) m_Km_isBlocked 0 (mx_lc0 m_Km_isBlocked [.ref m, .int (nI c), .int (nI ps.length)]) [] S D S (RI (bI (ps_blk ps c)) D) := by
  show EV _ _ _ _ [some (.ref m), some (.int (nI c)), some (.int (nI ps.length)), none] [] _ _ _ _
  refine EV.iconst (v := nI 0) d_Km_isBlocked_0 (by decide) ?_
  refine EV.istore_n d_Km_isBlocked_1 (by decide) ?_
  exact lp_Km_isBlocked hM hP hl hps hc ps.length 0 (by omega) rfl (fun j x hj => absurd hj (by omega))
