/-- what entryElement leaves -/
def EEP (D0 : mx_Mem) (tb : ps_T) (sh : Bool) (es : List ps_E) (A : List Nat × List Nat × List Nat) : Option Value → mx_Mem → Prop := fun rv D' => rv = none ∧ FrM D0 D' ∧ (D' 80 17 = nI (A.2.1 ++ A.2.2).length ∧ ar (D' 89) (A.2.1 ++ A.2.2)) ∧ D' 80 20 = bI (ps_isv A.1) ∧ D' 80 19 = nI (es.length + 1) ∧ ElM (D' 90) (es ++ [el_e tb sh A.1])
def RS (D : mx_Mem) (l : List Nat) (es : List ps_E) : Prop := (D 80 17 = nI l.length ∧ ar (D 89) l) ∧ D 80 19 = nI es.length ∧ ElM (D 90) es
def ps_an (k : Nat) (ps : List Nat) : Bool := ps.any (fun x => ps_cls x == k)
theorem ps_an_snoc (k : Nat) (ps : List Nat) (c : Nat) : ps_an k (ps ++ [c]) = (ps_an k ps || (ps_cls c == k)) := by simp [ps_an]
theorem ps_isv_c {s : List Nat} (h : ps_so s) : ps_isv s = (decide (ps_enc 128 s = 32) || decide (ps_enc 128 s = 45)) := by rw [← ps_var_enc (Or.inl rfl) h]; rfl
set_option maxHeartbeats 4000000 in
set_option maxRecDepth 100000 in
theorem lp_Mo_ee5 {G : mx_G} {d : Nat} {S : List mx_Sh} {D0 D : mx_Mem} {tb : ps_T} {sh : Bool} {es : List ps_E} {A : List Nat × List Nat × List Nat} (hS : SM S) (hT : TC D0 tb sh) (hes : es.length < 12) {s : List Nat} {i : Nat} {v1 v3 v4 v5 v7 v8 : Option Value} (hF : FrM D0 D) (hR : RS D (A.2.1 ++ A.2.2) es) (hs : A.1 = s) (hi : ps_idx tb s = some i) (hv : D 80 20 = bI (ps_isv A.1)) : EV G (d + 1) m_Mo_entryElement 235 [some (.ref 80), v1, some (.int (nI (ps_enc 128 s))), v3, v4, v5, some (.int (nI i)), v7, v8] [] S D S (EEP D0 tb sh es A) := by
  obtain ⟨hm0, hm1, hm2, hm3, hm4, hm5, hm6, hm7, hm8, hm9, hm10, hm11, hm12⟩ := id hS
  have hT1 := TC_fr hT hF
  have hil := ps_idx_lt hi
  have hwo : ps_wof tb A.1 = (ps_wt (ps_stp tb) (i + 1)) := by unfold ps_wof; rw [hs, hi]; rfl
  have K : (sh && ps_isv A.1) = false → EV G (d + 1) m_Mo_entryElement 266 [some (.ref 80), v1, some (.int (nI (ps_enc 128 s))), v3, v4, v5, some (.int (nI i)), v7, v8] [] S D S (EEP D0 tb sh es A) := by
    intro hne
    have he : el_e tb sh A.1 = ((ps_wt (ps_stp tb) (i + 1)).1, (ps_wt (ps_stp tb) (i + 1)).2.1, (ps_wt (ps_stp tb) (i + 1)).2.2, if sh = true then 1000 else 0) := by unfold el_e; rw [if_neg (by simp [hne]), hwo]
    refine EV.aload_n d_Mo_entryElement_266 rfl ?_
    refine EV.aload_n d_Mo_entryElement_267 rfl ?_
    refine EV.iload d_Mo_entryElement_268 rfl ?_
    refine EV.iconst (v := nI 1) d_Mo_entryElement_270 (by decide) ?_
    refine EV.V2 cv_Mo_96 d_Mo_entryElement_271 (by first | assumption | rfl) (sp_Mo_weight (L := 1) hS hT1.2.2 hT1.1.2 hil (by decide)) ⟨Nat.le_refl _, Nat.le_refl _⟩ rfl rfl (Nat.le_of_ble_eq_true rfl) (fun rv D1 hp => ?_)
    obtain ⟨rfl, hD⟩ := hp
    obtain rfl := hD.symm
    refine EV.aload_n d_Mo_entryElement_274 rfl ?_
    refine EV.iload d_Mo_entryElement_275 rfl ?_
    refine EV.iconst (v := nI 2) d_Mo_entryElement_277 (by decide) ?_
    refine EV.V2 cv_Mo_96 d_Mo_entryElement_278 (by first | assumption | rfl) (sp_Mo_weight (L := 2) hS hT1.2.2 hT1.1.2 hil (by decide)) ⟨Nat.le_refl _, Nat.le_refl _⟩ rfl rfl (Nat.le_of_ble_eq_true rfl) (fun rv D1 hp => ?_)
    obtain ⟨rfl, hD⟩ := hp
    obtain rfl := hD.symm
    refine EV.aload_n d_Mo_entryElement_281 rfl ?_
    refine EV.iload d_Mo_entryElement_282 rfl ?_
    refine EV.iconst (v := nI 3) d_Mo_entryElement_284 (by decide) ?_
    refine EV.V2 cv_Mo_96 d_Mo_entryElement_285 (by first | assumption | rfl) (sp_Mo_weight (L := 3) hS hT1.2.2 hT1.1.2 hil (by decide)) ⟨Nat.le_refl _, Nat.le_refl _⟩ rfl rfl (Nat.le_of_ble_eq_true rfl) (fun rv D1 hp => ?_)
    obtain ⟨rfl, hD⟩ := hp
    obtain rfl := hD.symm
    refine EV.sipush (v := nI 1000) d_Mo_entryElement_288 (by decide) ?_
    refine EV.V4 cv_Mo_115 d_Mo_entryElement_291 (by first | assumption | rfl) (sp_Mo_element hS hR.2.1 hR.2.2 hes hT1.2.1) ⟨Nat.le_refl _, Nat.le_refl _⟩ rfl rfl (Nat.le_of_ble_eq_true rfl) (fun rv D1 hp => ?_)
    obtain ⟨rfl, q1, q2, q3, q4, q5⟩ := hp
    exact EV.return_ d_Mo_entryElement_294 rfl ⟨rfl, FrM_t hF q1, ⟨by rw [q2 17 (by omega)]; exact hR.1.1, by rw [q3]; exact hR.1.2⟩, by rw [q2 20 (by omega)]; exact hv, q4, by rw [he]; exact q5⟩
  refine EV.aload_n d_Mo_entryElement_235 rfl ?_
  refine EV.getI fl_Mo_108 d_Mo_entryElement_236 (by first | assumption | rfl) rfl ?_
  refine EV.top hT1.2.1 ?_
  refine EV.if_eqB (tgt := 266) d_Mo_entryElement_239 (by decide) (fun h => K (by simp [h])) (fun h239 => ?_)
  refine EV.aload_n d_Mo_entryElement_242 rfl ?_
  refine EV.getI fl_Mo_112 d_Mo_entryElement_243 (by first | assumption | rfl) rfl ?_
  refine EV.top hv ?_
  refine EV.if_eqB (tgt := 266) d_Mo_entryElement_246 (by decide) (fun h => K (by simp [h])) (fun h246 => ?_)
  have he : el_e tb sh A.1 = (0, 0, 0, if sh = true then (ps_wt (ps_stp tb) (i + 1)).1 else 0) := by unfold el_e; rw [if_pos (by simp [h239, h246]), if_pos h239, hwo]
  refine EV.aload_n d_Mo_entryElement_249 rfl ?_
  refine EV.iconst (v := nI 0) d_Mo_entryElement_250 (by decide) ?_
  refine EV.iconst (v := nI 0) d_Mo_entryElement_251 (by decide) ?_
  refine EV.iconst (v := nI 0) d_Mo_entryElement_252 (by decide) ?_
  refine EV.aload_n d_Mo_entryElement_253 rfl ?_
  refine EV.iload d_Mo_entryElement_254 rfl ?_
  refine EV.iconst (v := nI 1) d_Mo_entryElement_256 (by decide) ?_
  refine EV.V2 cv_Mo_96 d_Mo_entryElement_257 (by first | assumption | rfl) (sp_Mo_weight (L := 1) hS hT1.2.2 hT1.1.2 hil (by decide)) ⟨Nat.le_refl _, Nat.le_refl _⟩ rfl rfl (Nat.le_of_ble_eq_true rfl) (fun rv D1 hp => ?_)
  obtain ⟨rfl, hD⟩ := hp
  obtain rfl := hD.symm
  refine EV.V4 cv_Mo_115 d_Mo_entryElement_260 (by first | assumption | rfl) (sp_Mo_element hS hR.2.1 hR.2.2 hes hT1.2.1) ⟨Nat.le_refl _, Nat.le_refl _⟩ rfl rfl (Nat.le_of_ble_eq_true rfl) (fun rv D1 hp => ?_)
  obtain ⟨rfl, q1, q2, q3, q4, q5⟩ := hp
  refine EV.goto (tgt := 294) d_Mo_entryElement_263 (by decide) ?_
  exact EV.return_ d_Mo_entryElement_294 rfl ⟨rfl, FrM_t hF q1, ⟨by rw [q2 17 (by omega)]; exact hR.1.1, by rw [q3]; exact hR.1.2⟩, by rw [q2 20 (by omega)]; exact hv, q4, by rw [he]; exact q5⟩
set_option maxHeartbeats 4000000 in
set_option maxRecDepth 100000 in
theorem lp_Mo_ee4 {G : mx_G} {d : Nat} {S : List mx_Sh} {D0 D : mx_Mem} {tb : ps_T} {sh : Bool} {es : List ps_E} {A : List Nat × List Nat × List Nat} (hS : SM S) (hT : TC D0 tb sh) (hes : es.length < 12) {s : List Nat} {i : Nat} {v1 v3 v4 v5 v6 v7 v8 : Option Value} (hF : FrM D0 D) (hR : RS D (A.2.1 ++ A.2.2) es) (hs : A.1 = s) (hso : ps_so s) (hi : ps_idx tb s = some i) : EV G (d + 1) m_Mo_entryElement 207 [some (.ref 80), v1, some (.int (nI (ps_enc 128 s))), v3, v4, v5, v6, v7, v8] [] S D S (EEP D0 tb sh es A) := by
  obtain ⟨hm0, hm1, hm2, hm3, hm4, hm5, hm6, hm7, hm8, hm9, hm10, hm11, hm12⟩ := id hS
  have hT1 := TC_fr hT hF
  have hil := ps_idx_lt hi
  have hel := ps_enc_b (Or.inl rfl) hso
  have hiv := ps_isv_c hso
  have K : ∀ b : Bool, b = ps_isv s → EV G (d + 1) m_Mo_entryElement 232 [some (.ref 80), v1, some (.int (nI (ps_enc 128 s))), v3, v4, v5, some (.int (nI i)), v7, v8] [.int (bI b), .ref 80] S D S (EEP D0 tb sh es A) := by
    intro b hb
    refine EV.putI fl_Mo_112 d_Mo_entryElement_232 (by first | assumption | rfl) rfl (bI_nr _) (bI_ft _) ?_
    refine lp_Mo_ee5 hS hT hes (FrM_t hF ⟨fun k k0 _ _ => mx_w_ne _ _ _ k0, fun j _ _ j2 => by rw [mx_w_eq]; simp [upd, j2]⟩) ⟨⟨?_, ?_⟩, ?_, ?_⟩ hs hi ?_
    · rw [mx_w_eq]; simp only [upd]; rw [if_neg (by decide)]; exact hR.1.1
    · rw [mx_w_ne _ _ _ (by omega)]; exact hR.1.2
    · rw [mx_w_eq]; simp only [upd]; rw [if_neg (by decide)]; exact hR.2.1
    · rw [mx_w_ne _ _ _ (by omega)]; exact hR.2.2
    · rw [mx_w_eq, hs, ← hb]; simp [upd]
  refine EV.aload_n d_Mo_entryElement_207 rfl ?_
  refine EV.iload_n d_Mo_entryElement_208 rfl ?_
  refine EV.V1 cv_Mo_122 d_Mo_entryElement_209 (by first | assumption | rfl) (sp_Mo_find hS hT1.1.1 hT1.2.2.2.1) ⟨Nat.le_refl _, Nat.le_refl _⟩ rfl rfl (Nat.le_of_ble_eq_true rfl) (fun rv D1 hp => ?_)
  obtain ⟨hD, r, rfl, hFd⟩ := hp
  obtain rfl := hD.symm
  have hr : r = nI i := by
    rcases Fnd_idx (Or.inl rfl) (fun e he => (hT1.2.2.1 e he).1) hT1.1.2 hso hFd with ⟨j, h1, -, h2⟩ | ⟨h1, -⟩
    · rw [hi] at h1; cases h1; exact h2
    · rw [hi] at h1; cases h1
  subst hr
  refine EV.istore d_Mo_entryElement_212 (by decide) ?_
  refine EV.aload_n d_Mo_entryElement_214 rfl ?_
  refine EV.iload_n d_Mo_entryElement_215 rfl ?_
  refine EV.bipush (v := nI 32) d_Mo_entryElement_216 (by decide) ?_
  refine EV.icmp_eqN (tgt := 227) d_Mo_entryElement_218 (by decide) rfl rfl (by omega) (by omega) (fun h218 => ?_) (fun h218 => ?_)
  · refine EV.iconst (v := nI 1) d_Mo_entryElement_227 (by decide) ?_
    refine EV.goto (tgt := 232) d_Mo_entryElement_228 (by decide) ?_
    first
    | exact K true (by rw [hiv, h218]; rfl)
    | exact K true (by rw [hiv, h224]; rfl)
    | exact K false (by rw [hiv]; simp [h218, h224])
  · refine EV.iload_n d_Mo_entryElement_221 rfl ?_
    refine EV.bipush (v := nI 45) d_Mo_entryElement_222 (by decide) ?_
    refine EV.icmp_neN (tgt := 231) d_Mo_entryElement_224 (by decide) rfl rfl (by omega) (by omega) (fun h224 => ?_) (fun h224 => ?_)
    · refine EV.iconst (v := nI 0) d_Mo_entryElement_231 (by decide) ?_
      first
      | exact K true (by rw [hiv, h218]; rfl)
      | exact K true (by rw [hiv, h224]; rfl)
      | exact K false (by rw [hiv]; simp [h218, h224])
    · refine EV.iconst (v := nI 1) d_Mo_entryElement_227 (by decide) ?_
      refine EV.goto (tgt := 232) d_Mo_entryElement_228 (by decide) ?_
      first
      | exact K true (by rw [hiv, h218]; rfl)
      | exact K true (by rw [hiv, h224]; rfl)
      | exact K false (by rw [hiv]; simp [h218, h224])
set_option maxHeartbeats 4000000 in
set_option maxRecDepth 100000 in
theorem lp_Mo_ee3 {G : mx_G} {d : Nat} {S : List mx_Sh} {D0 : mx_Mem} {tb : ps_T} {sh : Bool} {es : List ps_E} {A : List Nat × List Nat × List Nat} (hS : SM S) (hT : TC D0 tb sh) (hes : es.length < 12) : ∀ (m s ps : List Nat) (i : Nat) (D : mx_Mem) (v6 v7 v8 : Option Value), FrM D0 D → RS D (ps ++ m) es → ps_so s → ps_idx tb s = some i → (∀ c ∈ m, 0 < c ∧ c < 128) → (ps ++ m).length ≤ 12 → ps_abs tb s ps m = A → EV G (d + 1) m_Mo_entryElement 69 [some (.ref 80), some (.int (nI (s).length)), some (.int (nI (ps_enc 128 (s)))), some (.int (bI (ps_an 1 ps))), some (.int (bI (ps_an 2 ps))), some (.int (nI (ps).length)), v6, v7, v8] [] S D S (EEP D0 tb sh es A) := by
  obtain ⟨hm0, hm1, hm2, hm3, hm4, hm5, hm6, hm7, hm8, hm9, hm10, hm11, hm12⟩ := id hS
  intro m
  induction m with
  | nil =>
    intro s ps i D v6 v7 v8 hF hR hso hi hch hl hA
    simp only [ps_abs] at hA
    have hln := hR.1.1
    rw [List.append_nil] at hln hl
    refine EV.iload d_Mo_entryElement_69 rfl ?_
    refine EV.aload_n d_Mo_entryElement_71 rfl ?_
    refine EV.getI fl_Mo_99 d_Mo_entryElement_72 (by first | assumption | rfl) rfl ?_
    refine EV.icmp_geN (tgt := 207) d_Mo_entryElement_75 (by decide) rfl hln (by omega) (by omega) (fun _ => ?_) (fun h => absurd h (by omega))
    subst hA
    exact lp_Mo_ee4 hS hT hes hF hR rfl hso hi
  | cons c m ih =>
    intro s ps i D v6 v7 v8 hF hR hso hi hch hl hA
    have hln := hR.1.1
    have hT1 := TC_fr hT hF
    have hcl := hch c List.mem_cons_self
    have hsl := hso.2.1
    have hl2 : (ps ++ c :: m).length = ps.length + m.length + 1 := by simp; omega
    have hcv : D 89 ps.length = nI c := hR.1.2 _ c (by simp)
    have hco := ps_cls_or c
    simp only [ps_abs] at hA
    by_cases hm : ps_mark c = true
    · rw [if_pos hm] at hA
      have K3 : ¬ (ps_blk ps c = false ∧ s.length < 3 ∧ (ps_idx tb (s ++ [c])).isSome = true) → ∀ (b1 : Int32) (w7 w8 : Option Value), b1 = bI (ps_an 1 (ps ++ [c])) → EV G (d + 1) m_Mo_entryElement 183 [some (.ref 80), some (.int (nI (s).length)), some (.int (nI (ps_enc 128 (s)))), some (.int b1), some (.int (bI (ps_an 2 ps))), some (.int (nI (ps).length)), some (.int (nI (ps_cls c))), w7, w8] [] S D S (EEP D0 tb sh es A) := by
        intro hno b1 w7 w8 hb1
        rw [if_neg hno] at hA
        have J : ∀ b2 : Int32, b2 = bI (ps_an 2 (ps ++ [c])) → EV G (d + 1) m_Mo_entryElement 201 [some (.ref 80), some (.int (nI (s).length)), some (.int (nI (ps_enc 128 (s)))), some (.int b1), some (.int b2), some (.int (nI (ps).length)), some (.int (nI (ps_cls c))), w7, w8] [] S D S (EEP D0 tb sh es A) := by
          intro b2 hb2
          subst hb1 hb2
          refine EV.iincN d_Mo_entryElement_201 rfl (by decide) ?_
          refine EV.goto (tgt := 69) d_Mo_entryElement_204 (by decide) ?_
          have J2 := ih s (ps ++ [c]) i D (some (.int (nI (ps_cls c)))) w7 w8 hF (by rw [List.append_assoc]; exact hR) hso hi (fun x hx => hch x (List.mem_cons_of_mem _ hx)) (by rw [List.append_assoc]; exact hl) hA
          rw [show (ps ++ [c]).length = ps.length + 1 by simp] at J2
          exact J2
        refine EV.iload d_Mo_entryElement_183 rfl ?_
        refine EV.if_neB (tgt := 194) d_Mo_entryElement_185 (by decide) (fun h => ?_) (fun h185 => ?_)
        · refine EV.iconst (v := nI 1) d_Mo_entryElement_194 (by decide) ?_
          refine EV.goto (tgt := 199) d_Mo_entryElement_195 (by decide) ?_
          refine EV.istore d_Mo_entryElement_199 (by decide) ?_
          exact J _ (by rw [ps_an_snoc, h]; rfl)
        refine EV.iload d_Mo_entryElement_188 rfl ?_
        refine EV.iconst (v := nI 2) d_Mo_entryElement_190 (by decide) ?_
        refine EV.icmp_neN (tgt := 198) d_Mo_entryElement_191 (by decide) rfl rfl (by omega) (by omega) (fun h191 => ?_) (fun h191 => ?_)
        · refine EV.iconst (v := nI 0) d_Mo_entryElement_198 (by decide) ?_
          refine EV.istore d_Mo_entryElement_199 (by decide) ?_
          first
          | exact J _ (by rw [ps_an_snoc, h185, h191]; rfl)
          | exact J _ (by rw [ps_an_snoc, h185, show (ps_cls c == 2) = false by simp [h191]]; rfl)
        · refine EV.iconst (v := nI 1) d_Mo_entryElement_194 (by decide) ?_
          refine EV.goto (tgt := 199) d_Mo_entryElement_195 (by decide) ?_
          refine EV.istore d_Mo_entryElement_199 (by decide) ?_
          first
          | exact J _ (by rw [ps_an_snoc, h185, h191]; rfl)
          | exact J _ (by rw [ps_an_snoc, h185, show (ps_cls c == 2) = false by simp [h191]]; rfl)
      have K2 : ¬ (ps_blk ps c = false ∧ s.length < 3 ∧ (ps_idx tb (s ++ [c])).isSome = true) → ∀ (w7 w8 : Option Value), EV G (d + 1) m_Mo_entryElement 167 [some (.ref 80), some (.int (nI (s).length)), some (.int (nI (ps_enc 128 (s)))), some (.int (bI (ps_an 1 ps))), some (.int (bI (ps_an 2 ps))), some (.int (nI (ps).length)), some (.int (nI (ps_cls c))), w7, w8] [] S D S (EEP D0 tb sh es A) := by
        intro hno w7 w8
        refine EV.iload_n d_Mo_entryElement_167 rfl ?_
        refine EV.if_neB (tgt := 177) d_Mo_entryElement_168 (by decide) (fun h => ?_) (fun h168 => ?_)
        · refine EV.iconst (v := nI 1) d_Mo_entryElement_177 (by decide) ?_
          refine EV.goto (tgt := 182) d_Mo_entryElement_178 (by decide) ?_
          refine EV.istore_n d_Mo_entryElement_182 (by decide) ?_
          exact K3 hno _ _ _ (by rw [ps_an_snoc, h]; rfl)
        refine EV.iload d_Mo_entryElement_171 rfl ?_
        refine EV.iconst (v := nI 1) d_Mo_entryElement_173 (by decide) ?_
        refine EV.icmp_neN (tgt := 181) d_Mo_entryElement_174 (by decide) rfl rfl (by omega) (by omega) (fun h174 => ?_) (fun h174 => ?_)
        · refine EV.iconst (v := nI 0) d_Mo_entryElement_181 (by decide) ?_
          refine EV.istore_n d_Mo_entryElement_182 (by decide) ?_
          first
          | exact K3 hno _ _ _ (by rw [ps_an_snoc, h168, h174]; rfl)
          | exact K3 hno _ _ _ (by rw [ps_an_snoc, h168, show (ps_cls c == 1) = false by simp [h174]]; rfl)
        · refine EV.iconst (v := nI 1) d_Mo_entryElement_177 (by decide) ?_
          refine EV.goto (tgt := 182) d_Mo_entryElement_178 (by decide) ?_
          refine EV.istore_n d_Mo_entryElement_182 (by decide) ?_
          first
          | exact K3 hno _ _ _ (by rw [ps_an_snoc, h168, h174]; rfl)
          | exact K3 hno _ _ _ (by rw [ps_an_snoc, h168, show (ps_cls c == 1) = false by simp [h174]]; rfl)
      have K1 : ∀ z : Int32, (s.length < 3 → z = nI (ps_enc 128 (s ++ [c]))) → EV G (d + 1) m_Mo_entryElement 133 [some (.ref 80), some (.int (nI (s).length)), some (.int (nI (ps_enc 128 (s)))), some (.int (bI (ps_an 1 ps))), some (.int (bI (ps_an 2 ps))), some (.int (nI (ps).length)), some (.int (nI (ps_cls c))), some (.int (bI (ps_blk ps c))), some (.int z)] [] S D S (EEP D0 tb sh es A) := by
        intro z hz
        refine EV.iload d_Mo_entryElement_133 rfl ?_
        refine EV.if_neB (tgt := 167) d_Mo_entryElement_135 (by decide) (fun h => K2 (fun z => by rw [h] at z; exact absurd z.1 (by decide)) _ _) (fun h135 => ?_)
        refine EV.iload_n d_Mo_entryElement_138 rfl ?_
        refine EV.iconst (v := nI 3) d_Mo_entryElement_139 (by decide) ?_
        refine EV.icmp_geN (tgt := 167) d_Mo_entryElement_140 (by decide) rfl rfl (by omega) (by omega) (fun h => K2 (fun z => by omega) _ _) (fun h140 => ?_)
        obtain rfl := hz h140
        have hso2 : ps_so (s ++ [c]) := ⟨by simp, by simp; omega, fun x hx => by
          rcases List.mem_append.mp hx with h | h
          · exact hso.2.2 x h
          · simp at h; subst h; exact hcl⟩
        refine EV.aload_n d_Mo_entryElement_143 rfl ?_
        refine EV.iload d_Mo_entryElement_144 rfl ?_
        refine EV.V1 cv_Mo_122 d_Mo_entryElement_146 (by first | assumption | rfl) (sp_Mo_find hS hT1.1.1 hT1.2.2.2.1) ⟨Nat.le_refl _, Nat.le_refl _⟩ rfl rfl (Nat.le_of_ble_eq_true rfl) (fun rv D1 hp => ?_)
        obtain ⟨hD, r, rfl, hFd⟩ := hp
        obtain rfl := hD.symm
        rcases Fnd_idx (Or.inl rfl) (fun e he => (hT1.2.2.1 e he).1) hT1.1.2 hso2 hFd with ⟨j, h1, hjl, rfl⟩ | ⟨h1, rfl⟩
        · have h30 := hT1.2.2.2.1
          rw [if_pos ⟨h135, h140, by rw [h1]; rfl⟩] at hA
          refine EV.if_ltN (tgt := 167) d_Mo_entryElement_149 rfl (by omega) (by decide) ?_
          refine EV.iload d_Mo_entryElement_152 rfl ?_
          refine EV.istore_n d_Mo_entryElement_154 (by decide) ?_
          refine EV.iincN d_Mo_entryElement_155 rfl (by decide) ?_
          refine EV.aload_n d_Mo_entryElement_158 rfl ?_
          refine EV.iload d_Mo_entryElement_159 rfl ?_
          refine EV.V1 cv_Mo_125 d_Mo_entryElement_161 (by first | assumption | rfl) (sp_Mo_remove (a := ps.length) hS hR.1.1 hR.1.2 hl (by omega)) ⟨Nat.le_refl _, Nat.le_refl _⟩ rfl rfl (Nat.le_of_ble_eq_true rfl) (fun rv D1 hp => ?_)
          obtain ⟨rfl, q1, q2, q3, q4, q5⟩ := hp
          refine EV.goto (tgt := 204) d_Mo_entryElement_164 (by decide) ?_
          refine EV.goto (tgt := 69) d_Mo_entryElement_204 (by decide) ?_
          have e1 : (ps ++ c :: m).eraseIdx ps.length = ps ++ m := by rw [List.eraseIdx_append_of_length_le (Nat.le_refl _)]; simp
          rw [e1] at q4 q5
          have J2 := ih (s ++ [c]) ps j D1 (some (.int (nI (ps_cls c)))) (some (.int (bI (ps_blk ps c)))) (some (.int (nI (ps_enc 128 (s ++ [c]))))) (FrM_t hF q1) ⟨⟨q4, q5⟩, by rw [q2 19 (by omega)]; exact hR.2.1, by rw [q3]; exact hR.2.2⟩ hso2 h1 (fun x hx => hch x (List.mem_cons_of_mem _ hx)) (by simp at hl ⊢; omega) hA
          rw [show (s ++ [c]).length = s.length + 1 by simp] at J2
          exact J2
        · refine EV.if_lt (tgt := 167) d_Mo_entryElement_149 (by decide) (fun _ => ?_) (fun h => absurd (by decide) h)
          exact K2 (fun z => by rw [h1] at z; exact absurd z.2.2 (by decide)) _ _
      refine EV.iload d_Mo_entryElement_69 rfl ?_
      refine EV.aload_n d_Mo_entryElement_71 rfl ?_
      refine EV.getI fl_Mo_99 d_Mo_entryElement_72 (by first | assumption | rfl) rfl ?_
      refine EV.icmp_geN (tgt := 207) d_Mo_entryElement_75 (by decide) rfl hln (by omega) (by omega) (fun h => absurd h (by omega)) (fun _ => ?_)
      refine EV.aload_n d_Mo_entryElement_78 rfl ?_
      refine EV.getR fl_Mo_38 d_Mo_entryElement_79 (by first | assumption | rfl) rfl ?_
      refine EV.iload d_Mo_entryElement_82 rfl ?_
      refine EV.ialdN d_Mo_entryElement_84 (by first | assumption | rfl) rfl rfl (by omega) (by first | decide | omega) ?_
      refine EV.top hcv ?_
      refine EV.T1 cs_Mo_60 d_Mo_entryElement_85 (sp_Mo_isMark (by omega)) ⟨Nat.le_refl _, Nat.le_refl _⟩ rfl rfl (Nat.le_of_ble_eq_true rfl) (fun rv D1 hp => ?_)
      obtain ⟨rfl, hD⟩ := hp
      obtain rfl := hD.symm
      refine EV.if_eqB (tgt := 207) d_Mo_entryElement_88 (by decide) (fun h => absurd h (by simp [hm])) (fun _ => ?_)
      refine EV.aload_n d_Mo_entryElement_91 rfl ?_
      refine EV.getR fl_Mo_38 d_Mo_entryElement_92 (by first | assumption | rfl) rfl ?_
      refine EV.iload d_Mo_entryElement_95 rfl ?_
      refine EV.ialdN d_Mo_entryElement_97 (by first | assumption | rfl) rfl rfl (by omega) (by first | decide | omega) ?_
      refine EV.top hcv ?_
      refine EV.T1 cs_Mo_102 d_Mo_entryElement_98 (sp_Mo_classOf (by omega)) ⟨Nat.le_refl _, Nat.le_refl _⟩ rfl rfl (Nat.le_of_ble_eq_true rfl) (fun rv D1 hp => ?_)
      obtain ⟨rfl, hD⟩ := hp
      obtain rfl := hD.symm
      refine EV.istore d_Mo_entryElement_101 (by decide) ?_
      refine EV.iload d_Mo_entryElement_103 rfl ?_
      refine EV.iconst (v := nI 1) d_Mo_entryElement_105 (by decide) ?_
      rcases hco with h1 | h1
      · rw [h1]
        refine EV.icmp_neN (tgt := 113) d_Mo_entryElement_106 (by decide) rfl rfl (by decide) (by decide) (fun h => absurd rfl h) (fun _ => ?_)
        have hbk : ps_blk ps c = ps_an 1 ps := by unfold ps_blk ps_an; rw [h1]
        rw [hbk, h1] at K1
        refine EV.iload_n d_Mo_entryElement_109 rfl ?_
        refine EV.goto (tgt := 115) d_Mo_entryElement_110 (by decide) ?_
        refine EV.istore d_Mo_entryElement_115 (by decide) ?_
        refine EV.iload_n d_Mo_entryElement_117 rfl ?_
        refine EV.aload_n d_Mo_entryElement_118 rfl ?_
        refine EV.getR fl_Mo_38 d_Mo_entryElement_119 (by first | assumption | rfl) rfl ?_
        refine EV.iload d_Mo_entryElement_122 rfl ?_
        refine EV.ialdN d_Mo_entryElement_124 (by first | assumption | rfl) rfl rfl (by omega) (by first | decide | omega) ?_
        refine EV.top hcv ?_
        refine EV.bipush (v := nI 7) d_Mo_entryElement_125 (by decide) ?_
        refine EV.iload_n d_Mo_entryElement_127 rfl ?_
        refine EV.imul d_Mo_entryElement_128 ?_
        refine EV.ishl d_Mo_entryElement_129 ?_
        refine EV.iadd d_Mo_entryElement_130 ?_
        refine EV.istore d_Mo_entryElement_131 (by decide) ?_
        exact K1 _ (fun h => by have := pk_grow (w := s) (c := c) h (fun x hx => (hso.2.2 x hx).2) hcl.2; rw [← pk_mul] at this; exact this)
      · rw [h1]
        refine EV.icmp_neN (tgt := 113) d_Mo_entryElement_106 (by decide) rfl rfl (by decide) (by decide) (fun _ => ?_) (fun h => absurd h (by decide))
        have hbk : ps_blk ps c = ps_an 2 ps := by unfold ps_blk ps_an; rw [h1]
        rw [hbk, h1] at K1
        refine EV.iload d_Mo_entryElement_113 rfl ?_
        refine EV.istore d_Mo_entryElement_115 (by decide) ?_
        refine EV.iload_n d_Mo_entryElement_117 rfl ?_
        refine EV.aload_n d_Mo_entryElement_118 rfl ?_
        refine EV.getR fl_Mo_38 d_Mo_entryElement_119 (by first | assumption | rfl) rfl ?_
        refine EV.iload d_Mo_entryElement_122 rfl ?_
        refine EV.ialdN d_Mo_entryElement_124 (by first | assumption | rfl) rfl rfl (by omega) (by first | decide | omega) ?_
        refine EV.top hcv ?_
        refine EV.bipush (v := nI 7) d_Mo_entryElement_125 (by decide) ?_
        refine EV.iload_n d_Mo_entryElement_127 rfl ?_
        refine EV.imul d_Mo_entryElement_128 ?_
        refine EV.ishl d_Mo_entryElement_129 ?_
        refine EV.iadd d_Mo_entryElement_130 ?_
        refine EV.istore d_Mo_entryElement_131 (by decide) ?_
        exact K1 _ (fun h => by have := pk_grow (w := s) (c := c) h (fun x hx => (hso.2.2 x hx).2) hcl.2; rw [← pk_mul] at this; exact this)
    · rw [if_neg hm] at hA
      refine EV.iload d_Mo_entryElement_69 rfl ?_
      refine EV.aload_n d_Mo_entryElement_71 rfl ?_
      refine EV.getI fl_Mo_99 d_Mo_entryElement_72 (by first | assumption | rfl) rfl ?_
      refine EV.icmp_geN (tgt := 207) d_Mo_entryElement_75 (by decide) rfl hln (by omega) (by omega) (fun h => absurd h (by omega)) (fun _ => ?_)
      refine EV.aload_n d_Mo_entryElement_78 rfl ?_
      refine EV.getR fl_Mo_38 d_Mo_entryElement_79 (by first | assumption | rfl) rfl ?_
      refine EV.iload d_Mo_entryElement_82 rfl ?_
      refine EV.ialdN d_Mo_entryElement_84 (by first | assumption | rfl) rfl rfl (by omega) (by first | decide | omega) ?_
      refine EV.top hcv ?_
      refine EV.T1 cs_Mo_60 d_Mo_entryElement_85 (sp_Mo_isMark (by omega)) ⟨Nat.le_refl _, Nat.le_refl _⟩ rfl rfl (Nat.le_of_ble_eq_true rfl) (fun rv D1 hp => ?_)
      obtain ⟨rfl, hD⟩ := hp
      obtain rfl := hD.symm
      refine EV.if_eqB (tgt := 207) d_Mo_entryElement_88 (by decide) (fun _ => ?_) (fun h => absurd h hm)
      subst hA
      exact lp_Mo_ee4 hS hT hes hF hR rfl hso hi
