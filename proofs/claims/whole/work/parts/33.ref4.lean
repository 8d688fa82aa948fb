theorem ru_st_cs {q q' : ru_Q} {c : Nat} (h : ru_st q c = some q') : (q.1 = 0 ∧ q' = (1, 0, q.2.2)) ∨ (q.1 = 1 ∧ c = 60 ∧ q' = (1, q.2.1 + 1, q.2.2)) ∨ (q.1 = 1 ∧ ps_letter c = true ∧ q' = (2, q.2.1, q.2.2 ++ [([c], q.2.1)])) ∨ (¬ q.1 = 0 ∧ ¬ q.1 = 1 ∧ c = 60 ∧ q' = (1, 1, q.2.2)) ∨ (¬ q.1 = 0 ∧ ¬ q.1 = 1 ∧ c = 61 ∧ q' = (1, 4, q.2.2)) ∨ (¬ q.1 = 0 ∧ ¬ q.1 = 1 ∧ ¬ c = 60 ∧ ¬ c = 61 ∧ ∃ e, q.2.2[q.2.2.length - 1]? = some e ∧ (ps_letter c || ps_mark c) = true ∧ e.1.length < 3 ∧ q' = (2, q.2.1, q.2.2.set (q.2.2.length - 1) (e.1 ++ [c], e.2))) := by
  unfold ru_st at h
  split at h
  · rename_i h0
    split at h
    · cases h; exact Or.inl ⟨h0, rfl⟩
    · cases h
  · rename_i h0
    split at h
    · rename_i h1
      split at h
      · rename_i h2
        cases h; exact Or.inr (Or.inl ⟨h1, h2.1, rfl⟩)
      · split at h
        · rename_i h3
          cases h; exact Or.inr (Or.inr (Or.inl ⟨h1, h3, rfl⟩))
        · cases h
    · rename_i h1
      split at h
      · rename_i h2
        cases h; exact Or.inr (Or.inr (Or.inr (Or.inl ⟨h0, h1, h2, rfl⟩)))
      · rename_i h2
        split at h
        · rename_i h3
          cases h; exact Or.inr (Or.inr (Or.inr (Or.inr (Or.inl ⟨h0, h1, h3, rfl⟩))))
        · rename_i h3
          unfold ru_go at h
          split at h
          · cases h
          · rename_i e he
            split at h
            · rename_i hg
              cases h; exact Or.inr (Or.inr (Or.inr (Or.inr (Or.inr ⟨h0, h1, h2, h3, e, he, hg.1, hg.2, rfl⟩))))
            · cases h
/-- what stands complete stays -/
theorem ru_keep {qf : ru_Q} : ∀ (ys : List Nat) (q : ru_Q) (i : Nat), ru_rd q i ys = .inr qf → ∀ j, (j + 1 < q.2.2.length ∨ (q.1 ≤ 1 ∧ j < q.2.2.length)) → qf.2.2[j]? = q.2.2[j]? := by
  intro ys
  induction ys with
  | nil => intro q i h j _; simp only [ru_rd] at h; cases h; rfl
  | cons c r ih =>
    intro q i h j hj
    simp only [ru_rd] at h
    cases hg : ru_st q c with
    | none => rw [hg] at h; cases h
    | some q' =>
      rw [hg] at h
      rcases ru_st_cs hg with ⟨-, rfl⟩ | ⟨-, -, rfl⟩ | ⟨-, -, rfl⟩ | ⟨-, -, -, rfl⟩ | ⟨-, -, -, rfl⟩ | ⟨x1, x2, -, -, e, he, -, -, rfl⟩
      · exact ih _ _ h j (Or.inr ⟨by simp, by simp; omega⟩)
      · exact ih _ _ h j (Or.inr ⟨by simp, by simp; omega⟩)
      · rw [ih _ _ h j (Or.inl (by simp; omega))]
        exact List.getElem?_append_left (by omega)
      · exact ih _ _ h j (Or.inr ⟨by simp, by simp; omega⟩)
      · exact ih _ _ h j (Or.inr ⟨by simp, by simp; omega⟩)
      · by_cases hq : j + 1 < q.2.2.length
        · rw [ih _ _ h j (Or.inl (by simp; omega))]
          exact List.getElem?_set_ne (by omega)
        · exfalso
          omega
theorem ru_rd_cons {q qf : ru_Q} {p c : Nat} {xs : List Nat} (h : ru_rd q p (xs.drop p) = .inr qf) (hc : xs[p]? = some c) : ∃ q', ru_st q c = some q' ∧ ru_rd q' (p + 1) (xs.drop (p + 1)) = .inr qf := by
  have hl := (List.getElem?_eq_some_iff.mp hc).1
  rw [List.drop_eq_getElem_cons hl, (List.getElem?_eq_some_iff.mp hc).2] at h
  simp only [ru_rd] at h
  cases hg : ru_st q c with
  | none => rw [hg] at h; cases h
  | some q' => rw [hg] at h; exact ⟨q', rfl, h⟩
theorem ru_rd_end {q qf : ru_Q} {p : Nat} {xs : List Nat} (h : ru_rd q p (xs.drop p) = .inr qf) (hp : xs.length ≤ p) : qf = q := by
  rw [List.drop_of_length_le hp] at h
  simp only [ru_rd] at h
  cases h; rfl
def DnI (D0 D : mx_Mem) (tb : ps_T) : Prop := ((∀ k, ¬ k = 80 → ¬ k = 83 → ¬ k = 84 → D k = D0 k) ∧ ∀ j, ¬ j = 3 → D 80 j = D0 80 j) ∧ (D 80 3 = nI tb.length ∧ TBf 128 (D 83) (D 84) tb) ∧ ps_ok tb
def DnP (D0 : mx_Mem) (R : Int32 ⊕ ps_T) : Option Value → mx_Mem → Prop := fun rv D' => ((∀ k, ¬ k = 80 → ¬ k = 81 → ¬ k = 82 → ¬ k = 83 → ¬ k = 84 → D' k = D0 k) ∧ ∀ j, ¬ j = 0 → ¬ j = 3 → D' 80 j = D0 80 j) ∧ match R with
  | .inl c => rv = some (.int c) ∧ D' 81 = D0 81 ∧ D' 82 = D0 82 ∧ D' 80 0 = D0 80 0
  | .inr tb' => rv = some (.int (nI tb'.length)) ∧ D' 80 0 = nI tb'.length ∧ TBf 128 (D' 81) (D' 82) tb'
theorem DnP_f {D0 D' : mx_Mem} {tb : ps_T} {R : Int32 ⊕ ps_T} {c : Int32} (h : DnI D0 D' tb) (hR : R = .inl c) : DnP D0 R (some (.int c)) D' := by
  subst hR
  exact ⟨⟨fun k k0 _ _ k3 k4 => h.1.1 k k0 k3 k4, fun j _ hj => h.1.2 j hj⟩, rfl, h.1.1 81 (by omega) (by omega) (by omega), h.1.1 82 (by omega) (by omega) (by omega), h.1.2 0 (by omega)⟩
def rr (st : Nat) (tb : ps_T) (a : List Nat) (l : ps_T) : Int32 ⊕ ps_T := if st = 0 then ps_fol tb l else ps_foll tb a l
def dnA (G : mx_G) (d : Nat) (S : List mx_Sh) (D0 : mx_Mem) (xs : List Nat) (qf : ru_Q) (R : Int32 ⊕ ps_T) (p : Nat) : Prop := ∀ (q : ru_Q) (D : mx_Mem) (tb : ps_T) (a : List Nat) (va : Int32) (v4 v5 v6 : Option Value) (c : Nat), ru_wf q p → ru_rd q p (xs.drop p) = .inr qf → q.1 = 1 → xs[p]? = some c → ¬ c = 60 → DnI D0 D tb → (¬ q.2.1 = 0 → va = nI (ps_enc 128 a) ∧ ps_so a ∧ ps_has tb a) → rr q.2.1 tb a (qf.2.2.drop q.2.2.length) = R → EV G (d + 2) m_Mo_done 54 [some (.ref 80), some (.int va), some (.int (nI p)), some (.int (nI q.2.1)), v4, v5, v6] [] S D S (DnP D0 R)
def dnB (G : mx_G) (d : Nat) (S : List mx_Sh) (D0 : mx_Mem) (xs : List Nat) (qf : ru_Q) (R : Int32 ⊕ ps_T) (p : Nat) : Prop := ∀ (q : ru_Q) (D : mx_Mem) (tb : ps_T) (a : List Nat) (st : Nat) (v4 v5 v6 : Option Value), p ≤ xs.length → ru_wf q p → ru_rd q p (xs.drop p) = .inr qf → ((q.1 = 1 ∧ st = q.2.1 ∧ 1 ≤ st) ∨ (q.1 = 2 ∧ st = 0 ∧ ∀ c, xs[p]? = some c → ps_letter c = false ∧ ps_mark c = false)) → DnI D0 D tb → ps_so a → ps_has tb a → ps_foll tb a (qf.2.2.drop q.2.2.length) = R → EV G (d + 2) m_Mo_done 174 [some (.ref 80), some (.int (nI (ps_enc 128 a))), some (.int (nI p)), some (.int (nI st)), v4, v5, v6] [] S D S (DnP D0 R)
def dnC (G : mx_G) (d : Nat) (S : List mx_Sh) (D0 : mx_Mem) (xs : List Nat) (qf : ru_Q) (R : Int32 ⊕ ps_T) (p : Nat) : Prop := ∀ (q : ru_Q) (D : mx_Mem) (tb : ps_T) (a : List Nat) (va : Int32) (v6 : Option Value) (w : List Nat) (ls : ps_T) (st : Nat), p ≤ xs.length → ru_wf q p → ru_rd q p (xs.drop p) = .inr qf → q.1 = 2 → q.2.2 = ls ++ [(w, st)] → (st = 0 ↔ ls.length = 0) → DnI D0 D tb → (¬ st = 0 → va = nI (ps_enc 128 a) ∧ ps_so a ∧ ps_has tb a) → rr st tb a (qf.2.2.drop ls.length) = R → EV G (d + 2) m_Mo_done 68 [some (.ref 80), some (.int va), some (.int (nI p)), some (.int (nI st)), some (.int (nI (ps_enc 128 w))), some (.int (nI (7 * w.length))), v6] [] S D S (DnP D0 R)
theorem pk_grow {w : List Nat} {c : Nat} (hl : w.length < 3) (hw : ∀ x ∈ w, x < 128) (hc : c < 128) : nI (ps_enc 128 w) + nI c <<< (nI (7 * w.length) &&& 31) = nI (ps_enc 128 (w ++ [c])) := by
  rw [ps_enc_snoc, ← nI_add]
  congr 1
  rcases (show w.length = 0 ∨ w.length = 1 ∨ w.length = 2 by omega) with h | h | h <;> rw [h]
  · exact pk_shlN (nI (7 * 0) &&& 31) 0 (by decide) (by omega)
  · exact pk_shlN (nI (7 * 1) &&& 31) 7 (by decide) (by omega)
  · exact pk_shlN (nI (7 * 2) &&& 31) 14 (by decide) (by omega)
theorem ru_ans_r {q : ru_Q} {n : Nat} {xs : List Nat} {rl : ps_T} (h : ru_ans n (ru_rd q 0 xs) = .inr rl) : ∃ qf, ru_rd q 0 xs = .inr qf ∧ qf.1 = 2 ∧ qf.2.2 = rl := by
  cases hr : ru_rd q 0 xs with
  | inl i => rw [hr] at h; cases h
  | inr q' =>
    rw [hr] at h
    simp only [ru_ans] at h
    split at h
    · rename_i hq; cases h; exact ⟨q', rfl, hq.1, rfl⟩
    · cases h
set_option maxHeartbeats 4000000 in
set_option maxRecDepth 100000 in
theorem lp_Mo_back {G : mx_G} {d : Nat} {S : List mx_Sh} {D0 : mx_Mem} {tb : ps_T} {v1 v2 v3 v5 v6 : Option Value} (hS : SM S) (hle : tb.length ≤ 30) : ∀ (n i : Nat) (D : mx_Mem), i ≤ tb.length → tb.length - i = n → (∀ k, ¬ k = 80 → ¬ k = 81 → ¬ k = 82 → ¬ k = 83 → ¬ k = 84 → D k = D0 k) → (∀ j, ¬ j = 0 → ¬ j = 3 → D 80 j = D0 80 j) → D 80 0 = nI tb.length → TBf 128 (D 83) (D 84) tb → (∀ j, j < i → D 81 j = D 83 j ∧ D 82 j = D 84 j) → EV G d m_Mo_done 243 [some (.ref 80), v1, v2, v3, some (.int (nI i)), v5, v6] [] S D S (DnP D0 (.inr tb)) := by
  obtain ⟨hm0, hm1, hm2, hm3, hm4, hm5, hm6, hm7, hm8, hm9, hm10, hm11, hm12⟩ := id hS
  intro n
  induction n with
  | zero =>
    intro i D h1 h2 ho ho8 hc hB hj
    refine EV.iload d_Mo_done_243 rfl ?_
    refine EV.aload_n d_Mo_done_245 rfl ?_
    refine EV.getI fl_Mo_50 d_Mo_done_246 (by first | assumption | rfl) rfl ?_
    refine EV.icmp_geN (tgt := 286) d_Mo_done_249 (by decide) rfl hc (by omega) (by omega) (fun h249 => ?_) (fun h249 => ?_)
    · refine EV.aload_n d_Mo_done_286 rfl ?_
      refine EV.getI fl_Mo_50 d_Mo_done_287 (by first | assumption | rfl) rfl ?_
      refine EV.top hc ?_
      exact EV.ireturn d_Mo_done_290 ⟨_, rfl, rfl⟩ ⟨⟨ho, ho8⟩, rfl, hc, fun j e he => by
        have hl := (List.getElem?_eq_some_iff.mp he).1
        rw [(hj j (by omega)).1, (hj j (by omega)).2]
        exact hB j e he⟩
    · exfalso
      omega
  | succ n ih =>
    intro i D h1 h2 ho ho8 hc hB hj
    refine EV.iload d_Mo_done_243 rfl ?_
    refine EV.aload_n d_Mo_done_245 rfl ?_
    refine EV.getI fl_Mo_50 d_Mo_done_246 (by first | assumption | rfl) rfl ?_
    refine EV.icmp_geN (tgt := 286) d_Mo_done_249 (by decide) rfl hc (by omega) (by omega) (fun h249 => ?_) (fun h249 => ?_)
    · exfalso
      omega
    · refine EV.aload_n d_Mo_done_252 rfl ?_
      refine EV.getR fl_Mo_7 d_Mo_done_253 (by first | assumption | rfl) rfl ?_
      refine EV.iload d_Mo_done_256 rfl ?_
      refine EV.aload_n d_Mo_done_258 rfl ?_
      refine EV.getR fl_Mo_16 d_Mo_done_259 (by first | assumption | rfl) rfl ?_
      refine EV.iload d_Mo_done_262 rfl ?_
      refine EV.ialdN d_Mo_done_264 (by first | assumption | rfl) rfl rfl (by omega) (by first | decide | omega) ?_
      refine EV.iastN d_Mo_done_265 (by first | assumption | rfl) rfl rfl (by omega) (by first | decide | omega) ?_
      refine EV.aload_n d_Mo_done_266 rfl ?_
      refine EV.getR fl_Mo_13 d_Mo_done_267 (by first | assumption | rfl) rfl ?_
      refine EV.iload d_Mo_done_270 rfl ?_
      refine EV.aload_n d_Mo_done_272 rfl ?_
      refine EV.getR fl_Mo_19 d_Mo_done_273 (by first | assumption | rfl) rfl ?_
      refine EV.iload d_Mo_done_276 rfl ?_
      refine EV.ialdN d_Mo_done_278 (by first | assumption | rfl) rfl rfl (by omega) (by first | decide | omega) ?_
      refine EV.iastN d_Mo_done_279 (by first | assumption | rfl) rfl rfl (by omega) (by first | decide | omega) ?_
      refine EV.iincN d_Mo_done_280 rfl (by decide) ?_
      refine EV.goto (tgt := 243) d_Mo_done_283 (by decide) ?_
      refine ih (i + 1) _ (by omega) (by omega) ?_ ?_ ?_ ?_ ?_
      · intro k k0 k1 k2 k3 k4
        rw [mx_w_ne _ _ _ k2, mx_w_ne _ _ _ k1]
        exact ho k k0 k1 k2 k3 k4
      · intro j j0 j3
        rw [mx_w_ne _ _ _ (by omega), mx_w_ne _ _ _ (by omega)]
        exact ho8 j j0 j3
      · rw [mx_w_ne _ _ _ (by omega), mx_w_ne _ _ _ (by omega)]
        exact hc
      · rw [mx_w_ne _ _ _ (by omega), mx_w_ne _ _ _ (by omega), mx_w_ne _ _ _ (by omega), mx_w_ne _ _ _ (by omega)]
        exact hB
      · intro j hji
        by_cases q : j = i
        · subst q; simp [mx_w, va_up, upd]
        · have := hj j (by omega)
          simp [mx_w, va_up, upd, q, this]
set_option maxHeartbeats 4000000 in
set_option maxRecDepth 100000 in
theorem lp_Mo_dnB {G : mx_G} {d : Nat} {S : List mx_Sh} {D0 : mx_Mem} {xs : List Nat} {qf : ru_Q} {R : Int32 ⊕ ps_T} {p : Nat} (hS : SM S) (hln : D0 80 7 = nI xs.length) (har : ar (D0 85) xs) (hle : xs.length ≤ 24) (hch : ∀ c ∈ xs, c < 128) (hf2 : qf.1 = 2) (hA : dnA G d S D0 xs qf R p) (hB1 : dnB G d S D0 xs qf R (p + 1)) : dnB G d S D0 xs qf R p := by
  obtain ⟨hm0, hm1, hm2, hm3, hm4, hm5, hm6, hm7, hm8, hm9, hm10, hm11, hm12⟩ := id hS
  intro q D tb a st v4 v5 v6 hp hw hrd hq hI ha hha hR
  have hst4 : st ≤ 4 := by rcases hq with h | h <;> have := hw.2.1 <;> omega
  have hln2 : D 80 7 = nI xs.length := by rw [hI.1.2 7 (by omega)]; exact hln
  have har2 : ar (D 85) xs := by rw [hI.1.1 85 (by omega) (by omega) (by omega)]; exact har
  rcases Nat.lt_or_ge p xs.length with hpl | hpl
  · obtain ⟨c, hc⟩ : ∃ c, xs[p]? = some c := ⟨xs[p], List.getElem?_eq_getElem hpl⟩
    have hcl := hch c (List.mem_of_getElem? hc)
    have hcv := har2 p c hc
    refine EV.iload_n d_Mo_done_174 rfl ?_
    refine EV.aload_n d_Mo_done_175 rfl ?_
    refine EV.getI fl_Mo_53 d_Mo_done_176 (by first | assumption | rfl) rfl ?_
    refine EV.icmp_geN (tgt := 229) d_Mo_done_179 (by decide) rfl hln2 (by omega) (by omega) (fun h179 => ?_) (fun h179 => ?_)
    · exfalso
      omega
    · refine EV.aload_n d_Mo_done_182 rfl ?_
      refine EV.getR fl_Mo_22 d_Mo_done_183 (by first | assumption | rfl) rfl ?_
      refine EV.iload_n d_Mo_done_186 rfl ?_
      refine EV.ialdN d_Mo_done_187 (by first | assumption | rfl) rfl rfl (by omega) (by first | decide | omega) ?_
      refine EV.bipush (v := nI 60) d_Mo_done_188 (by decide) ?_
      refine EV.icmp_eqN (tgt := 204) d_Mo_done_190 (by decide) hcv rfl (by omega) (by omega) (fun h190 => ?_) (fun h190 => ?_)
      · have h60 := h190
        obtain ⟨q', hg, hrd'⟩ := ru_rd_cons hrd hc
        have hw' := ru_st_wf hw hg
        have hq' : q'.1 = 1 ∧ q'.2.1 = st + 1 ∧ q'.2.2 = q.2.2 := by
          rcases hq with ⟨y1, y2, y3⟩ | ⟨y1, y2, y3⟩
          · rcases ru_st_cs hg with ⟨z, -⟩ | ⟨-, -, rfl⟩ | ⟨-, z, -⟩ | ⟨-, z, -⟩ | ⟨-, z, -⟩ | ⟨-, z, -⟩
            · omega
            · exact ⟨rfl, by subst y2; rfl, rfl⟩
            · exact absurd h60 ((ps_excl c).1 z).2.1
            · omega
            · omega
            · omega
          · rcases ru_st_cs hg with ⟨z, -⟩ | ⟨z, -⟩ | ⟨z, -⟩ | ⟨-, -, -, rfl⟩ | ⟨-, -, z, -⟩ | ⟨-, -, z, -⟩
            · omega
            · omega
            · omega
            · exact ⟨rfl, by subst y2; rfl, rfl⟩
            · omega
            · exact absurd h60 z
        have hst3 : st + 1 ≤ 4 := by have := hw'.2.1; omega
        refine EV.aload_n d_Mo_done_204 rfl ?_
        refine EV.getR fl_Mo_22 d_Mo_done_205 (by first | assumption | rfl) rfl ?_
        refine EV.iload_n d_Mo_done_208 rfl ?_
        refine EV.ialdN d_Mo_done_209 (by first | assumption | rfl) rfl rfl (by omega) (by first | decide | omega) ?_
        refine EV.bipush (v := nI 61) d_Mo_done_210 (by decide) ?_
        refine EV.icmp_neN (tgt := 219) d_Mo_done_212 (by decide) hcv rfl (by omega) (by omega) (fun h212 => ?_) (fun h212 => ?_)
        · refine EV.iload_n d_Mo_done_219 rfl ?_
          refine EV.iconst (v := nI 1) d_Mo_done_220 (by decide) ?_
          refine EV.iadd d_Mo_done_221 ?_
          refine EV.top (y := nI (st + 1)) (nI_1 _) ?_
          refine EV.istore_n d_Mo_done_222 (by decide) ?_
          refine EV.iincN d_Mo_done_223 rfl (by decide) ?_
          refine EV.goto (tgt := 174) d_Mo_done_226 (by decide) ?_
          exact hB1 q' D tb a _ v4 v5 v6 (by omega) hw' hrd' (Or.inl ⟨hq'.1, hq'.2.1.symm, by omega⟩) hI ha hha (by rw [hq'.2.2]; exact hR)
        · exfalso
          omega
      · refine EV.aload_n d_Mo_done_193 rfl ?_
        refine EV.getR fl_Mo_22 d_Mo_done_194 (by first | assumption | rfl) rfl ?_
        refine EV.iload_n d_Mo_done_197 rfl ?_
        refine EV.ialdN d_Mo_done_198 (by first | assumption | rfl) rfl rfl (by omega) (by first | decide | omega) ?_
        refine EV.bipush (v := nI 61) d_Mo_done_199 (by decide) ?_
        refine EV.icmp_neN (tgt := 229) d_Mo_done_201 (by decide) hcv rfl (by omega) (by omega) (fun h201 => ?_) (fun h201 => ?_)
        · refine EV.goto (tgt := 54) d_Mo_done_229 (by decide) ?_
          rcases hq with ⟨y1, y2, y3⟩ | ⟨y1, y2, y3⟩
          · subst y2
            exact hA q D tb a _ v4 v5 v6 c hw hrd y1 hc h190 hI (fun _ => ⟨rfl, ha, hha⟩) (by unfold rr; rw [if_neg (by omega)]; exact hR)
          · exfalso
            obtain ⟨q', hg, hrd'⟩ := ru_rd_cons hrd hc
            obtain ⟨l1, l2⟩ := y3 c hc
            rcases ru_st_cs hg with ⟨z, -⟩ | ⟨z, -⟩ | ⟨z, -⟩ | ⟨-, -, z, -⟩ | ⟨-, -, z, -⟩ | ⟨-, -, -, -, e, -, z, -⟩
            · omega
            · omega
            · omega
            · exact h190 z
            · exact h201 z
            · rw [l1, l2] at z; cases z
        · have h61 := h201
          obtain ⟨q', hg, hrd'⟩ := ru_rd_cons hrd hc
          have hw' := ru_st_wf hw hg
          have hq' : q'.1 = 1 ∧ q'.2.1 = 4 ∧ q'.2.2 = q.2.2 := by
            rcases hq with ⟨y1, y2, y3⟩ | ⟨y1, y2, y3⟩
            · rcases ru_st_cs hg with ⟨z, -⟩ | ⟨-, z, -⟩ | ⟨-, z, -⟩ | ⟨-, z, -⟩ | ⟨-, z, -⟩ | ⟨-, z, -⟩
              · omega
              · omega
              · exact absurd h61 ((ps_excl c).1 z).2.2.1
              · omega
              · omega
              · omega
            · rcases ru_st_cs hg with ⟨z, -⟩ | ⟨z, -⟩ | ⟨z, -⟩ | ⟨-, -, z, -⟩ | ⟨-, -, -, rfl⟩ | ⟨-, -, -, z, -⟩
              · omega
              · omega
              · omega
              · omega
              · exact ⟨rfl, rfl, rfl⟩
              · exact absurd h61 z
          refine EV.aload_n d_Mo_done_204 rfl ?_
          refine EV.getR fl_Mo_22 d_Mo_done_205 (by first | assumption | rfl) rfl ?_
          refine EV.iload_n d_Mo_done_208 rfl ?_
          refine EV.ialdN d_Mo_done_209 (by first | assumption | rfl) rfl rfl (by omega) (by first | decide | omega) ?_
          refine EV.bipush (v := nI 61) d_Mo_done_210 (by decide) ?_
          refine EV.icmp_neN (tgt := 219) d_Mo_done_212 (by decide) hcv rfl (by omega) (by omega) (fun h212 => ?_) (fun h212 => ?_)
          · exfalso
            omega
          · refine EV.iconst (v := nI 4) d_Mo_done_215 (by decide) ?_
            refine EV.goto (tgt := 222) d_Mo_done_216 (by decide) ?_
            refine EV.istore_n d_Mo_done_222 (by decide) ?_
            refine EV.iincN d_Mo_done_223 rfl (by decide) ?_
            refine EV.goto (tgt := 174) d_Mo_done_226 (by decide) ?_
            exact hB1 q' D tb a _ v4 v5 v6 (by omega) hw' hrd' (Or.inl ⟨hq'.1, hq'.2.1.symm, by omega⟩) hI ha hha (by rw [hq'.2.2]; exact hR)
  · have hqe := ru_rd_end hrd hpl
    subst hqe
    rw [List.drop_of_length_le (by omega)] at hR
    simp only [ps_foll] at hR
    subst hR
    refine EV.iload_n d_Mo_done_174 rfl ?_
    refine EV.aload_n d_Mo_done_175 rfl ?_
    refine EV.getI fl_Mo_53 d_Mo_done_176 (by first | assumption | rfl) rfl ?_
    refine EV.icmp_geN (tgt := 229) d_Mo_done_179 (by decide) rfl hln2 (by omega) (by omega) (fun h179 => ?_) (fun h179 => ?_)
    · refine EV.goto (tgt := 54) d_Mo_done_229 (by decide) ?_
      refine EV.iload_n d_Mo_done_54 rfl ?_
      refine EV.aload_n d_Mo_done_55 rfl ?_
      refine EV.getI fl_Mo_53 d_Mo_done_56 (by first | assumption | rfl) rfl ?_
      refine EV.icmp_geN (tgt := 232) d_Mo_done_59 (by decide) rfl hln2 (by omega) (by omega) (fun h59 => ?_) (fun h59 => ?_)
      · refine EV.aload_n d_Mo_done_232 rfl ?_
        refine EV.aload_n d_Mo_done_233 rfl ?_
        refine EV.getI fl_Mo_70 d_Mo_done_234 (by first | assumption | rfl) rfl ?_
        refine EV.top hI.2.1.1 ?_
        refine EV.putI fl_Mo_50 d_Mo_done_237 (by first | assumption | rfl) rfl rfl rfl ?_
        refine EV.iconst (v := nI 0) d_Mo_done_240 (by decide) ?_
        refine EV.istore d_Mo_done_241 (by decide) ?_
        refine lp_Mo_back hS hI.2.2.2.1 tb.length 0 _ (by omega) rfl ?_ ?_ ?_ ?_ (fun j hj => absurd hj (by omega))
        · intro k k0 k1 k2 k3 k4
          rw [mx_w_ne _ _ _ k0]
          exact hI.1.1 k k0 k3 k4
        · intro j j0 j3
          rw [mx_w_eq]
          simp only [upd, if_neg j0]
          exact hI.1.2 j j3
        · rw [mx_w_eq]; simp [upd]
        · rw [mx_w_ne _ _ _ (by omega), mx_w_ne _ _ _ (by omega)]
          exact hI.2.1.2
      · exfalso
        omega
    · exfalso
      omega
set_option maxHeartbeats 4000000 in
set_option maxRecDepth 100000 in
theorem lp_Mo_dnA {G : mx_G} {d : Nat} {S : List mx_Sh} {D0 : mx_Mem} {xs : List Nat} {qf : ru_Q} {R : Int32 ⊕ ps_T} {p : Nat} (hS : SM S) (hln : D0 80 7 = nI xs.length) (har : ar (D0 85) xs) (hle : xs.length ≤ 24) (hch : ∀ c ∈ xs, c < 128) (hf2 : qf.1 = 2) (hC1 : dnC G d S D0 xs qf R (p + 1)) : dnA G d S D0 xs qf R p := by
  obtain ⟨hm0, hm1, hm2, hm3, hm4, hm5, hm6, hm7, hm8, hm9, hm10, hm11, hm12⟩ := id hS
  intro q D tb a va v4 v5 v6 c hw hrd hq hc h60 hI hva hR
  have hpl := (List.getElem?_eq_some_iff.mp hc).1
  have hln2 : D 80 7 = nI xs.length := by rw [hI.1.2 7 (by omega)]; exact hln
  have har2 : ar (D 85) xs := by rw [hI.1.1 85 (by omega) (by omega) (by omega)]; exact har
  have hcl := hch c (List.mem_of_getElem? hc)
  have hcv := har2 p c hc
  obtain ⟨q', hg, hrd'⟩ := ru_rd_cons hrd hc
  have hw' := ru_st_wf hw hg
  have hq' : ps_letter c = true ∧ q' = (2, q.2.1, q.2.2 ++ [([c], q.2.1)]) := by
    rcases ru_st_cs hg with ⟨z, -⟩ | ⟨-, z, -⟩ | ⟨-, z1, z2⟩ | ⟨-, z, -⟩ | ⟨-, z, -⟩ | ⟨-, z, -⟩
    · omega
    · exact absurd z h60
    · exact ⟨z1, z2⟩
    · omega
    · omega
    · omega
  obtain ⟨hlt, rfl⟩ := hq'
  refine EV.iload_n d_Mo_done_54 rfl ?_
  refine EV.aload_n d_Mo_done_55 rfl ?_
  refine EV.getI fl_Mo_53 d_Mo_done_56 (by first | assumption | rfl) rfl ?_
  refine EV.icmp_geN (tgt := 232) d_Mo_done_59 (by decide) rfl hln2 (by omega) (by omega) (fun h => absurd h (by omega)) (fun _ => ?_)
  refine EV.iconst (v := nI 0) d_Mo_done_62 (by decide) ?_
  refine EV.istore d_Mo_done_63 (by decide) ?_
  refine EV.iconst (v := nI 0) d_Mo_done_65 (by decide) ?_
  refine EV.istore d_Mo_done_66 (by decide) ?_
  refine EV.iload_n d_Mo_done_68 rfl ?_
  refine EV.aload_n d_Mo_done_69 rfl ?_
  refine EV.getI fl_Mo_53 d_Mo_done_70 (by first | assumption | rfl) rfl ?_
  refine EV.icmp_geN (tgt := 127) d_Mo_done_73 (by decide) rfl hln2 (by omega) (by omega) (fun h => absurd h (by omega)) (fun _ => ?_)
  refine EV.aload_n d_Mo_done_76 rfl ?_
  refine EV.getR fl_Mo_22 d_Mo_done_77 (by first | assumption | rfl) rfl ?_
  refine EV.iload_n d_Mo_done_80 rfl ?_
  refine EV.ialdN d_Mo_done_81 (by first | assumption | rfl) rfl rfl (by omega) (by first | decide | omega) ?_
  refine EV.top hcv ?_
  refine EV.T1 cs_Mo_56 d_Mo_done_82 (sp_Mo_isLetter (by omega)) ⟨Nat.le_refl _, Nat.le_refl _⟩ rfl rfl (Nat.le_of_ble_eq_true rfl) (fun rv D1 hp => ?_)
  obtain ⟨rfl, hD⟩ := hp
  obtain rfl := hD.symm
  refine EV.if_neB (tgt := 100) d_Mo_done_85 (by decide) (fun _ => ?_) (fun h => absurd h (by simp [hlt]))
  refine EV.iload d_Mo_done_100 rfl ?_
  refine EV.aload_n d_Mo_done_102 rfl ?_
  refine EV.getR fl_Mo_22 d_Mo_done_103 (by first | assumption | rfl) rfl ?_
  refine EV.iload_n d_Mo_done_106 rfl ?_
  refine EV.ialdN d_Mo_done_107 (by first | assumption | rfl) rfl rfl (by omega) (by first | decide | omega) ?_
  refine EV.top hcv ?_
  refine EV.iload d_Mo_done_108 rfl ?_
  refine EV.ishl d_Mo_done_110 ?_
  refine EV.iadd d_Mo_done_111 ?_
  refine EV.top (y := nI (ps_enc 128 ([c]))) (pk_grow (w := []) (by decide) (fun x hx => by cases hx) hcl) ?_
  refine EV.istore d_Mo_done_112 (by decide) ?_
  refine EV.iload d_Mo_done_114 rfl ?_
  refine EV.bipush (v := nI 7) d_Mo_done_116 (by decide) ?_
  refine EV.iadd d_Mo_done_118 ?_
  refine EV.top (y := nI (7 * ([c]).length)) (by rw [nI_add]; rfl) ?_
  refine EV.istore d_Mo_done_119 (by decide) ?_
  refine EV.iincN d_Mo_done_121 rfl (by decide) ?_
  refine EV.goto (tgt := 68) d_Mo_done_124 (by decide) ?_
  exact hC1 _ D tb a va v6 [c] q.2.2 q.2.1 (by omega) hw' hrd' rfl rfl (hw.2.2.2.2.2.2.1 hq) hI hva hR
set_option maxHeartbeats 4000000 in
set_option maxRecDepth 100000 in
theorem lp_Mo_dnC {G : mx_G} {d : Nat} {S : List mx_Sh} {D0 : mx_Mem} {xs : List Nat} {qf : ru_Q} {R : Int32 ⊕ ps_T} {p : Nat} (hS : SM S) (hln : D0 80 7 = nI xs.length) (har : ar (D0 85) xs) (hle : xs.length ≤ 24) (hch : ∀ c ∈ xs, c < 128) (hf2 : qf.1 = 2) (hB0 : dnB G d S D0 xs qf R p) (hC1 : dnC G d S D0 xs qf R (p + 1)) : dnC G d S D0 xs qf R p := by
  obtain ⟨hm0, hm1, hm2, hm3, hm4, hm5, hm6, hm7, hm8, hm9, hm10, hm11, hm12⟩ := id hS
  intro q D tb a va v6 w ls st hp hw hrd hq hls hst hI hva hR
  have hln2 : D 80 7 = nI xs.length := by rw [hI.1.2 7 (by omega)]; exact hln
  have har2 : ar (D 85) xs := by rw [hI.1.1 85 (by omega) (by omega) (by omega)]; exact har
  have hmw : (w, st) ∈ q.2.2 := by rw [hls]; simp
  have hso := (hw.2.2.2.1 _ hmw).1
  have hst4 := (hw.2.2.2.1 _ hmw).2
  dsimp only at hso hst4
  have hlq : q.2.2.length = ls.length + 1 := by rw [hls]; simp
  have hat : q.2.2[ls.length]? = some (w, st) := by rw [hls]; simp
  have hst1 : ¬ st = 0 → 1 ≤ st ∧ st ≤ 4 := fun h => by omega
  have hok := hI.2.2
  have h30 := hok.2.1
  have hs2 : ∀ e ∈ tb, ps_so e.1 := fun e he => (hok.1 e he).1
  have K : (∀ c, xs[p]? = some c → ps_letter c = false ∧ ps_mark c = false) → EV G (d + 2) m_Mo_done 127 [some (.ref 80), some (.int va), some (.int (nI p)), some (.int (nI st)), some (.int (nI (ps_enc 128 w))), some (.int (nI (7 * w.length))), v6] [] S D S (DnP D0 R) := by
    intro hex
    have hk : qf.2.2[ls.length]? = some (w, st) := by
      rcases Nat.lt_or_ge p xs.length with hpl | hpl
      · have hc : xs[p]? = some xs[p] := List.getElem?_eq_getElem hpl
        obtain ⟨q', hg, hrd'⟩ := ru_rd_cons hrd hc
        obtain ⟨l1, l2⟩ := hex _ hc
        have hq' : q'.1 ≤ 1 ∧ q'.2.2 = q.2.2 := by
          rcases ru_st_cs hg with ⟨z, -⟩ | ⟨z, -⟩ | ⟨z, -⟩ | ⟨-, -, -, rfl⟩ | ⟨-, -, -, rfl⟩ | ⟨-, -, -, -, e, -, z, -⟩
          · omega
          · omega
          · omega
          · exact ⟨by simp, rfl⟩
          · exact ⟨by simp, rfl⟩
          · rw [l1, l2] at z; cases z
        rw [ru_keep _ _ _ hrd' ls.length (Or.inr ⟨hq'.1, by rw [hq'.2]; omega⟩), hq'.2]
        exact hat
      · rw [ru_rd_end hrd hpl]; exact hat
    have hdr : qf.2.2.drop ls.length = (w, st) :: qf.2.2.drop (ls.length + 1) := by
      have hl := (List.getElem?_eq_some_iff.mp hk).1
      rw [List.drop_eq_getElem_cons hl, (List.getElem?_eq_some_iff.mp hk).2]
    rw [hdr] at hR
    rcases Nat.eq_zero_or_pos st with h0 | h0
    · unfold rr at hR
      rw [if_pos h0] at hR
      simp only [ps_fol] at hR
      subst h0
      refine EV.iload_n d_Mo_done_127 rfl ?_
      refine EV.if_neN (tgt := 143) d_Mo_done_128 (by decide) rfl (by decide) (fun h => absurd rfl h) (fun _ => ?_)
      refine EV.aload_n d_Mo_done_131 rfl ?_
      refine EV.iload d_Mo_done_132 rfl ?_
      refine EV.V1 cv_Mo_73 d_Mo_done_134 (by first | assumption | rfl) (sp_Mo_findNew hS hI.2.1.1 hok.2.1) ⟨Nat.le_refl _, Nat.le_refl _⟩ rfl rfl (Nat.le_of_ble_eq_true rfl) (fun rv D1 hpp => ?_)
      obtain ⟨hD, r, rfl, hF⟩ := hpp
      obtain rfl := hD.symm
      rcases Fnd_idx (Or.inl rfl) hs2 hI.2.1.2 hso hF with ⟨i, hi, hil, rfl⟩ | ⟨hi, rfl⟩
      · rw [hi] at hR
        dsimp only at hR
        refine EV.if_geN (tgt := 143) d_Mo_done_137 rfl (by omega) (by decide) ?_
        refine EV.iload_n d_Mo_done_143 rfl ?_
        refine EV.if_neN (tgt := 151) d_Mo_done_144 (by decide) rfl (by decide) (fun h => absurd rfl h) (fun _ => ?_)
        refine EV.iconst (v := nI 0) d_Mo_done_147 (by decide) ?_
        refine EV.goto (tgt := 159) d_Mo_done_148 (by decide) ?_
        refine EV.istore d_Mo_done_159 (by decide) ?_
        refine EV.iload d_Mo_done_161 rfl ?_
        refine EV.if_geN (tgt := 169) d_Mo_done_163 rfl (by decide) (by decide) ?_
        refine EV.iload d_Mo_done_169 rfl ?_
        refine EV.istore_n d_Mo_done_171 (by decide) ?_
        refine EV.iconst (v := nI 0) d_Mo_done_172 (by decide) ?_
        refine EV.istore_n d_Mo_done_173 (by decide) ?_
        exact hB0 q D tb w 0 _ _ _ hp hw hrd (Or.inr ⟨hq, rfl, hex⟩) hI hso ⟨_, List.mem_of_getElem? (ps_idx_some.mp hi).1.choose_spec.1, (ps_idx_some.mp hi).1.choose_spec.2⟩ (by rw [hlq]; exact hR)
      · rw [hi] at hR
        dsimp only at hR
        refine EV.if_ge (tgt := 143) d_Mo_done_137 (by decide) (fun h => absurd h (by decide)) (fun _ => ?_)
        refine EV.bipush (v := (-100)) d_Mo_done_140 (by decide) ?_
        exact EV.ireturn d_Mo_done_142 ⟨_, rfl, rfl⟩ (DnP_f hI hR.symm)
    · unfold rr at hR
      rw [if_neg (by omega)] at hR
      simp only [ps_foll] at hR
      obtain ⟨rfl, hsa, hha⟩ := hva (by omega)
      refine EV.iload_n d_Mo_done_127 rfl ?_
      refine EV.if_neN (tgt := 143) d_Mo_done_128 (by decide) rfl (by omega) (fun _ => ?_) (fun h => absurd h (by omega))
      refine EV.iload_n d_Mo_done_143 rfl ?_
      refine EV.if_neN (tgt := 151) d_Mo_done_144 (by decide) rfl (by omega) (fun _ => ?_) (fun h => absurd h (by omega))
      refine EV.aload_n d_Mo_done_151 rfl ?_
      refine EV.iload_n d_Mo_done_152 rfl ?_
      refine EV.iload_n d_Mo_done_153 rfl ?_
      refine EV.iload d_Mo_done_154 rfl ?_
      refine EV.V3 cv_Mo_85 d_Mo_done_156 (by first | assumption | rfl) (sp_Mo_relate hS hI.2.1.1 hI.2.1.2 hok hso hsa ⟨h0, hst4⟩ hha) ⟨Nat.le_refl _, Nat.le_refl _⟩ rfl rfl (Nat.le_of_ble_eq_true rfl) (fun rv D1 hpp => ?_)
      obtain ⟨hn1, hn2⟩ := hpp
      have hmI : ∀ tb', (D1 80 3 = nI tb'.length ∧ TBf 128 (D1 83) (D1 84) tb') ∧ ps_ok tb' → DnI D0 D1 tb' := fun tb' h => ⟨⟨fun k k0 k3 k4 => (hn1.1 k k0 k3 k4).trans (hI.1.1 k k0 k3 k4), fun j hj => (hn1.2 j hj).trans (hI.1.2 j hj)⟩, h⟩
      cases hmv : ps_move tb w a st with
      | inl c =>
        rw [hmv] at hn2 hR
        dsimp only at hn2 hR
        subst hn2
        have hneg : c < 0 := by rcases ps_move_neg hok hha hmv with rfl | rfl <;> decide
        refine EV.istore d_Mo_done_159 (by decide) ?_
        refine EV.iload d_Mo_done_161 rfl ?_
        refine EV.if_ge (tgt := 169) d_Mo_done_163 (by decide) (fun h => absurd hneg (Int32.not_lt.mpr h)) (fun _ => ?_)
        refine EV.iload d_Mo_done_166 rfl ?_
        exact EV.ireturn d_Mo_done_168 ⟨_, rfl, rfl⟩ (by subst hR; exact ⟨⟨fun k k0 _ _ k3 k4 => (hn1.1 k k0 k3 k4).trans (hI.1.1 k k0 k3 k4), fun j _ hj => (hn1.2 j hj).trans (hI.1.2 j hj)⟩, rfl, (hn1.1 81 (by omega) (by omega) (by omega)).trans (hI.1.1 81 (by omega) (by omega) (by omega)), (hn1.1 82 (by omega) (by omega) (by omega)).trans (hI.1.1 82 (by omega) (by omega) (by omega)), (hn1.2 0 (by omega)).trans (hI.1.2 0 (by omega))⟩)
      | inr tb' =>
        rw [hmv] at hn2 hR
        dsimp only at hn2 hR
        obtain ⟨rfl, hc1, hB1⟩ := hn2
        obtain ⟨k1, k2, k3⟩ := ps_move_ok hok hso ⟨h0, hst4⟩ hmv
        refine EV.istore d_Mo_done_159 (by decide) ?_
        refine EV.iload d_Mo_done_161 rfl ?_
        refine EV.if_geN (tgt := 169) d_Mo_done_163 rfl (by decide) (by decide) ?_
        refine EV.iload d_Mo_done_169 rfl ?_
        refine EV.istore_n d_Mo_done_171 (by decide) ?_
        refine EV.iconst (v := nI 0) d_Mo_done_172 (by decide) ?_
        refine EV.istore_n d_Mo_done_173 (by decide) ?_
        exact hB0 q D1 tb' w 0 _ _ _ hp hw hrd (Or.inr ⟨hq, rfl, hex⟩) (hmI tb' ⟨⟨hc1, hB1⟩, k1⟩) hso k2 (by rw [hlq]; exact hR)
  rcases Nat.lt_or_ge p xs.length with hpl | hpl
  · obtain ⟨c, hc⟩ : ∃ c, xs[p]? = some c := ⟨xs[p], List.getElem?_eq_getElem hpl⟩
    have hcl := hch c (List.mem_of_getElem? hc)
    have hcv := har2 p c hc
    have J : (ps_letter c || ps_mark c) = true → EV G (d + 2) m_Mo_done 100 [some (.ref 80), some (.int va), some (.int (nI p)), some (.int (nI st)), some (.int (nI (ps_enc 128 w))), some (.int (nI (7 * w.length))), v6] [] S D S (DnP D0 R) := by
      intro hlm
      obtain ⟨q', hg, hrd'⟩ := ru_rd_cons hrd hc
      have hw' := ru_st_wf hw hg
      have hx := ps_excl c
      have hx60 : ¬ c = 60 ∧ ¬ c = 61 := by
        rw [Bool.or_eq_true] at hlm
        rcases hlm with h | h
        · exact ⟨(hx.1 h).2.1, (hx.1 h).2.2.1⟩
        · exact hx.2 h
      have hq' : w.length < 3 ∧ q' = (2, q.2.1, ls ++ [(w ++ [c], st)]) := by
        rcases ru_st_cs hg with ⟨z, -⟩ | ⟨z, -⟩ | ⟨z, -⟩ | ⟨-, -, z, -⟩ | ⟨-, -, z, -⟩ | ⟨-, -, -, -, e, he, z1, z2, rfl⟩
        · omega
        · omega
        · omega
        · exact absurd z hx60.1
        · exact absurd z hx60.2
        · have e1 : q.2.2.length - 1 = ls.length := by omega
          rw [e1, hat] at he
          cases he
          refine ⟨z2, ?_⟩
          rw [e1, hls]
          simp
      obtain ⟨hwl, rfl⟩ := hq'
      refine EV.iload d_Mo_done_100 rfl ?_
      refine EV.aload_n d_Mo_done_102 rfl ?_
      refine EV.getR fl_Mo_22 d_Mo_done_103 (by first | assumption | rfl) rfl ?_
      refine EV.iload_n d_Mo_done_106 rfl ?_
      refine EV.ialdN d_Mo_done_107 (by first | assumption | rfl) rfl rfl (by omega) (by first | decide | omega) ?_
      refine EV.top hcv ?_
      refine EV.iload d_Mo_done_108 rfl ?_
      refine EV.ishl d_Mo_done_110 ?_
      refine EV.iadd d_Mo_done_111 ?_
      refine EV.top (y := nI (ps_enc 128 (w ++ [c]))) (pk_grow hwl (fun x hx => (hso.2.2 x hx).2) hcl) ?_
      refine EV.istore d_Mo_done_112 (by decide) ?_
      refine EV.iload d_Mo_done_114 rfl ?_
      refine EV.bipush (v := nI 7) d_Mo_done_116 (by decide) ?_
      refine EV.iadd d_Mo_done_118 ?_
      refine EV.top (y := nI (7 * (w ++ [c]).length)) (by rw [nI_add]; simp [Nat.mul_add]) ?_
      refine EV.istore d_Mo_done_119 (by decide) ?_
      refine EV.iincN d_Mo_done_121 rfl (by decide) ?_
      refine EV.goto (tgt := 68) d_Mo_done_124 (by decide) ?_
      exact hC1 _ D tb a va v6 (w ++ [c]) ls st (by omega) hw' hrd' rfl rfl hst hI hva hR
    refine EV.iload_n d_Mo_done_68 rfl ?_
    refine EV.aload_n d_Mo_done_69 rfl ?_
    refine EV.getI fl_Mo_53 d_Mo_done_70 (by first | assumption | rfl) rfl ?_
    refine EV.icmp_geN (tgt := 127) d_Mo_done_73 (by decide) rfl hln2 (by omega) (by omega) (fun h => absurd h (by omega)) (fun _ => ?_)
    refine EV.aload_n d_Mo_done_76 rfl ?_
    refine EV.getR fl_Mo_22 d_Mo_done_77 (by first | assumption | rfl) rfl ?_
    refine EV.iload_n d_Mo_done_80 rfl ?_
    refine EV.ialdN d_Mo_done_81 (by first | assumption | rfl) rfl rfl (by omega) (by first | decide | omega) ?_
    refine EV.top hcv ?_
    refine EV.T1 cs_Mo_56 d_Mo_done_82 (sp_Mo_isLetter (by omega)) ⟨Nat.le_refl _, Nat.le_refl _⟩ rfl rfl (Nat.le_of_ble_eq_true rfl) (fun rv D1 hpp => ?_)
    obtain ⟨rfl, hD⟩ := hpp
    obtain rfl := hD.symm
    refine EV.if_neB (tgt := 100) d_Mo_done_85 (by decide) (fun h85 => J (by simp [h85])) (fun h85 => ?_)
    refine EV.aload_n d_Mo_done_88 rfl ?_
    refine EV.getR fl_Mo_22 d_Mo_done_89 (by first | assumption | rfl) rfl ?_
    refine EV.iload_n d_Mo_done_92 rfl ?_
    refine EV.ialdN d_Mo_done_93 (by first | assumption | rfl) rfl rfl (by omega) (by first | decide | omega) ?_
    refine EV.top hcv ?_
    refine EV.T1 cs_Mo_60 d_Mo_done_94 (sp_Mo_isMark (by omega)) ⟨Nat.le_refl _, Nat.le_refl _⟩ rfl rfl (Nat.le_of_ble_eq_true rfl) (fun rv D1 hpp => ?_)
    obtain ⟨rfl, hD⟩ := hpp
    obtain rfl := hD.symm
    refine EV.if_eqB (tgt := 127) d_Mo_done_97 (by decide) (fun h97 => K (fun c' hc' => ?_)) (fun h97 => J (by simp [h97]))
    rw [hc] at hc'
    cases hc'
    exact ⟨h85, h97⟩
  · refine EV.iload_n d_Mo_done_68 rfl ?_
    refine EV.aload_n d_Mo_done_69 rfl ?_
    refine EV.getI fl_Mo_53 d_Mo_done_70 (by first | assumption | rfl) rfl ?_
    refine EV.icmp_geN (tgt := 127) d_Mo_done_73 (by decide) rfl hln2 (by omega) (by omega) (fun _ => ?_) (fun h => absurd h (by omega))
    refine K (fun c hc => ?_)
    have := (List.getElem?_eq_some_iff.mp hc).1
    omega
theorem dn_all {G : mx_G} {d : Nat} {S : List mx_Sh} {D0 : mx_Mem} {xs : List Nat} {qf : ru_Q} {R : Int32 ⊕ ps_T} (hS : SM S) (hln : D0 80 7 = nI xs.length) (har : ar (D0 85) xs) (hle : xs.length ≤ 24) (hch : ∀ c ∈ xs, c < 128) (hf2 : qf.1 = 2) : ∀ (m p : Nat), p ≤ xs.length → xs.length - p = m → dnA G d S D0 xs qf R p ∧ dnB G d S D0 xs qf R p ∧ dnC G d S D0 xs qf R p := by
  intro m
  induction m with
  | zero =>
    intro p h1 h2
    have hv : ∀ i, xs.length ≤ i → dnA G d S D0 xs qf R i := fun i hi q D tb a va v4 v5 v6 c _ _ _ hc => absurd (List.getElem?_eq_some_iff.mp hc).1 (by omega)
    have hB : dnB G d S D0 xs qf R p := lp_Mo_dnB hS hln har hle hch hf2 (hv p (by omega)) (fun q D tb a st v4 v5 v6 h => absurd h (by omega))
    exact ⟨hv p (by omega), hB, lp_Mo_dnC hS hln har hle hch hf2 hB (fun q D tb a va v6 w ls st h => absurd h (by omega))⟩
  | succ m ih =>
    intro p h1 h2
    obtain ⟨-, b, c⟩ := ih (p + 1) (by omega) (by omega)
    have hA := lp_Mo_dnA hS hln har hle hch hf2 c
    have hB := lp_Mo_dnB hS hln har hle hch hf2 hA b
    exact ⟨hA, hB, lp_Mo_dnC hS hln har hle hch hf2 hB c⟩
set_option maxHeartbeats 4000000 in
set_option maxRecDepth 100000 in
theorem lp_Mo_into {G : mx_G} {d : Nat} {S : List mx_Sh} {D0 : mx_Mem} {tb : ps_T} {R : Int32 ⊕ ps_T} {v2 v3 v4 v5 v6 : Option Value} (hS : SM S) (hok : ps_ok tb) (hc0 : D0 80 0 = nI tb.length) (hB0 : TBf 128 (D0 81) (D0 82) tb) (K : ∀ (D : mx_Mem) (v1 : Option Value), DnI D0 D tb → EV G d m_Mo_done 48 [some (.ref 80), v1, v2, v3, v4, v5, v6] [] S D S (DnP D0 R)) : ∀ (n i : Nat) (D : mx_Mem), i ≤ tb.length → tb.length - i = n → ((∀ k, ¬ k = 80 → ¬ k = 83 → ¬ k = 84 → D k = D0 k) ∧ ∀ j, ¬ j = 3 → D 80 j = D0 80 j) → D 80 3 = nI tb.length → (∀ j, j < i → D 83 j = D0 81 j ∧ D 84 j = D0 82 j) → EV G d m_Mo_done 10 [some (.ref 80), some (.int (nI i)), v2, v3, v4, v5, v6] [] S D S (DnP D0 R) := by
  obtain ⟨hm0, hm1, hm2, hm3, hm4, hm5, hm6, hm7, hm8, hm9, hm10, hm11, hm12⟩ := id hS
  have hle := hok.2.1
  intro n
  induction n with
  | zero =>
    intro i D h1 h2 ho h3 hj
    have hc : D 80 0 = nI tb.length := by rw [ho.2 0 (by omega)]; exact hc0
    refine EV.iload_n d_Mo_done_10 rfl ?_
    refine EV.aload_n d_Mo_done_11 rfl ?_
    refine EV.getI fl_Mo_50 d_Mo_done_12 (by first | assumption | rfl) rfl ?_
    refine EV.icmp_geN (tgt := 48) d_Mo_done_15 (by decide) rfl hc (by omega) (by omega) (fun h15 => ?_) (fun h15 => ?_)
    · refine K D _ ⟨ho, ⟨h3, fun j e he => ?_⟩, hok⟩
      have hl := (List.getElem?_eq_some_iff.mp he).1
      rw [(hj j (by omega)).1, (hj j (by omega)).2]
      exact hB0 j e he
    · exfalso
      omega
  | succ n ih =>
    intro i D h1 h2 ho h3 hj
    have hc : D 80 0 = nI tb.length := by rw [ho.2 0 (by omega)]; exact hc0
    refine EV.iload_n d_Mo_done_10 rfl ?_
    refine EV.aload_n d_Mo_done_11 rfl ?_
    refine EV.getI fl_Mo_50 d_Mo_done_12 (by first | assumption | rfl) rfl ?_
    refine EV.icmp_geN (tgt := 48) d_Mo_done_15 (by decide) rfl hc (by omega) (by omega) (fun h15 => ?_) (fun h15 => ?_)
    · exfalso
      omega
    · refine EV.aload_n d_Mo_done_18 rfl ?_
      refine EV.getR fl_Mo_16 d_Mo_done_19 (by first | assumption | rfl) rfl ?_
      refine EV.iload_n d_Mo_done_22 rfl ?_
      refine EV.aload_n d_Mo_done_23 rfl ?_
      refine EV.getR fl_Mo_7 d_Mo_done_24 (by first | assumption | rfl) rfl ?_
      refine EV.iload_n d_Mo_done_27 rfl ?_
      refine EV.ialdN d_Mo_done_28 (by first | assumption | rfl) rfl rfl (by omega) (by first | decide | omega) ?_
      refine EV.iastN d_Mo_done_29 (by first | assumption | rfl) rfl rfl (by omega) (by first | decide | omega) ?_
      refine EV.aload_n d_Mo_done_30 rfl ?_
      refine EV.getR fl_Mo_19 d_Mo_done_31 (by first | assumption | rfl) rfl ?_
      refine EV.iload_n d_Mo_done_34 rfl ?_
      refine EV.aload_n d_Mo_done_35 rfl ?_
      refine EV.getR fl_Mo_13 d_Mo_done_36 (by first | assumption | rfl) rfl ?_
      refine EV.iload_n d_Mo_done_39 rfl ?_
      refine EV.ialdN d_Mo_done_40 (by first | assumption | rfl) rfl rfl (by omega) (by first | decide | omega) ?_
      refine EV.iastN d_Mo_done_41 (by first | assumption | rfl) rfl rfl (by omega) (by first | decide | omega) ?_
      refine EV.iincN d_Mo_done_42 rfl (by decide) ?_
      refine EV.goto (tgt := 10) d_Mo_done_45 (by decide) ?_
      have e1 : D 81 = D0 81 := ho.1 81 (by omega) (by omega) (by omega)
      have e2 : D 82 = D0 82 := ho.1 82 (by omega) (by omega) (by omega)
      refine ih (i + 1) _ (by omega) (by omega) ⟨?_, ?_⟩ ?_ ?_
      · intro k k0 k3 k4
        rw [mx_w_ne _ _ _ k4, mx_w_ne _ _ _ k3]
        exact ho.1 k k0 k3 k4
      · intro j j3
        rw [mx_w_ne _ _ _ (by omega), mx_w_ne _ _ _ (by omega)]
        exact ho.2 j j3
      · rw [mx_w_ne _ _ _ (by omega), mx_w_ne _ _ _ (by omega)]
        exact h3
      · intro j hji
        by_cases q : j = i
        · subst q; simp [mx_w, va_up, upd, e1, e2]
        · have := hj j (by omega)
          simp [mx_w, va_up, upd, q, this]
set_option maxHeartbeats 4000000 in
set_option maxRecDepth 100000 in
theorem sp_Mo_done {G : mx_G} {d : Nat} {S : List mx_Sh} {D0 : mx_Mem} {xs : List Nat} {qf : ru_Q} {tb : ps_T} (hS : SM S) (hln : D0 80 7 = nI xs.length) (har : ar (D0 85) xs) (hle : xs.length ≤ 24) (hch : ∀ c ∈ xs, c < 128) (hf2 : qf.1 = 2) (hrd : ru_rd (0, 0, []) 0 xs = .inr qf) (hok : ps_ok tb) (hc0 : D0 80 0 = nI tb.length) (hB0 : TBf 128 (D0 81) (D0 82) tb) : EV G (d + 2) m_Mo_done 0 (mx_lc0 m_Mo_done [.ref 80]) [] S D0 S (DnP D0 (ps_fol tb qf.2.2)) := by
  obtain ⟨hm0, hm1, hm2, hm3, hm4, hm5, hm6, hm7, hm8, hm9, hm10, hm11, hm12⟩ := id hS
  have hw0 : ru_wf (0, 0, []) 0 := ⟨by decide, by decide, by decide, fun e he => (by cases he), fun h => absurd h (by decide), fun _ => rfl, fun h => absurd h (by decide), fun i e _ he => (by cases he)⟩
  have h0l : 0 < xs.length := by
    rcases Nat.eq_zero_or_pos xs.length with h | h
    · have := ru_rd_end (p := 0) hrd (by omega)
      rw [this] at hf2; cases hf2
    · exact h
  obtain ⟨q', hg, hrd1⟩ := ru_rd_cons (p := 0) hrd (List.getElem?_eq_getElem h0l)
  have hq1 : q' = (1, 0, []) := by
    rcases ru_st_cs hg with ⟨-, h⟩ | ⟨z, -⟩ | ⟨z, -⟩ | ⟨z, -⟩ | ⟨z, -⟩ | ⟨z, -⟩
    · exact h
    · cases z
    · cases z
    · exact absurd rfl z
    · exact absurd rfl z
    · exact absurd rfl z
  subst hq1
  have hw1 := ru_st_wf hw0 hg
  rw [Nat.zero_add] at hrd1 hw1
  have h1l : 1 < xs.length := by
    rcases Nat.lt_or_ge 1 xs.length with h | h
    · exact h
    · have := ru_rd_end hrd1 h
      rw [this] at hf2; cases hf2
  obtain ⟨c1, hc1⟩ : ∃ c, xs[1]? = some c := ⟨xs[1], List.getElem?_eq_getElem h1l⟩
  have h60 : ¬ c1 = 60 := fun h => by
    obtain ⟨q2, hg2, -⟩ := ru_rd_cons hrd1 hc1
    subst h
    revert hg2
    simp [ru_st, ps_letter]
  show EV _ _ _ _ [some (.ref 80), none, none, none, none, none, none] [] _ _ _ _
  refine EV.aload_n d_Mo_done_0 rfl ?_
  refine EV.aload_n d_Mo_done_1 rfl ?_
  refine EV.getI fl_Mo_50 d_Mo_done_2 (by first | assumption | rfl) rfl ?_
  refine EV.top hc0 ?_
  refine EV.putI fl_Mo_70 d_Mo_done_5 (by first | assumption | rfl) rfl rfl rfl ?_
  refine EV.iconst (v := nI 0) d_Mo_done_8 (by decide) ?_
  refine EV.istore_n d_Mo_done_9 (by decide) ?_
  refine lp_Mo_into hS hok hc0 hB0 ?_ tb.length 0 _ (by omega) rfl ⟨?_, ?_⟩ ?_ (fun j hj => absurd hj (by omega))
  · intro D v1 hI
    refine EV.iconst (v := nI 0) d_Mo_done_48 (by decide) ?_
    refine EV.istore_n d_Mo_done_49 (by decide) ?_
    refine EV.iconst (v := nI 1) d_Mo_done_50 (by decide) ?_
    refine EV.istore_n d_Mo_done_51 (by decide) ?_
    refine EV.iconst (v := nI 0) d_Mo_done_52 (by decide) ?_
    refine EV.istore_n d_Mo_done_53 (by decide) ?_
    exact ((dn_all (R := ps_fol tb qf.2.2) hS hln har hle hch hf2 (xs.length - 1) 1 (by omega) rfl).1) (1, 0, []) D tb [] (nI 0) _ _ _ c1 hw1 hrd1 rfl hc1 h60 hI (fun h => absurd rfl h) (by simp [rr])
  · intro k k0 k3 k4
    rw [mx_w_ne _ _ _ k0]
  · intro j hj
    rw [mx_w_eq]; simp [upd, hj]
  · rw [mx_w_eq]; simp [upd]
theorem MI_tail {D0 D' : mx_Mem} {σ : sg} {tb : ps_T} (h : MI D0 σ) (hF : ∀ k, ¬ k = 80 → ¬ k = 81 → ¬ k = 82 → ¬ k = 83 → ¬ k = 84 → D' k = D0 k) (h8 : ∀ j, ¬ j = 0 → ¬ j = 3 → ¬ j = 7 → D' 80 j = D0 80 j) (h7 : D' 80 7 = nI 0) (h0 : D' 80 0 = nI tb.length) (hB : TBf 128 (D' 81) (D' 82) tb) : MI D' ((sg_up σ 2 []).1, tb, σ.2.2) := by
  obtain ⟨⟨a1, a2⟩, ⟨b1, b2⟩, ⟨c1, c2⟩, ⟨d1, d2, d3⟩, ⟨e1, e2⟩, f1⟩ := h
  unfold MI MF TX at *
  rw [h8 11 (by omega) (by omega) (by omega), h8 12 (by omega) (by omega) (by omega), h8 13 (by omega) (by omega) (by omega), h8 14 (by omega) (by omega) (by omega), h8 15 (by omega) (by omega) (by omega), hF 86 (by omega) (by omega) (by omega) (by omega) (by omega), hF 87 (by omega) (by omega) (by omega) (by omega) (by omega), hF 88 (by omega) (by omega) (by omega) (by omega) (by omega)]
  exact ⟨⟨by simpa [sg_up] using a1, by simpa [sg_up] using a2⟩, ⟨by simpa [sg_up] using h7, by simp [sg_up]; exact ar_nil _⟩, ⟨h0, hB⟩, ⟨d1, d2, d3⟩, ⟨e1, e2⟩, f1⟩
set_option maxHeartbeats 4000000 in
set_option maxRecDepth 100000 in
theorem rf_tail {G : mx_G} {d : Nat} {S : List mx_Sh} {D : mx_Mem} {σ : sg} (hS : SM S) (hC : MI D σ) (hI : SI σ) : EV G (d + 3) m_Mo_tailor 0 (mx_lc0 m_Mo_tailor [.ref 80]) [] S D S (PM D (op_tail σ).2 (op_tail σ).1) := by
  obtain ⟨hm0, hm1, hm2, hm3, hm4, hm5, hm6, hm7, hm8, hm9, hm10, hm11, hm12⟩ := id hS
  have hle := hI.2.1.1
  show EV _ _ _ _ [some (.ref 80), none, none] [] _ _ _ _
  refine EV.aload_n d_Mo_tailor_0 rfl ?_
  refine EV.V0 cv_Mo_89 d_Mo_tailor_1 (by first | assumption | rfl) (sp_Mo_fault hS hC.2.1.1 hC.2.1.2 hI.2.1.1 (fun c hc => by have := hI.2.1.2 c hc; omega)) ⟨Nat.le_refl _, Nat.le_refl _⟩ rfl rfl (Nat.le_of_ble_eq_true rfl) (fun rv D1 hp => ?_)
  obtain ⟨rfl, hD⟩ := hp
  obtain rfl := hD.symm
  rcases hans : ru_ans (σ.1 2).length (ru_rd (0, 0, []) 0 (σ.1 2)) with pf | rl
  · have hop : op_tail σ = (-1 - nI pf, sg_up σ 2 []) := by unfold op_tail; rw [hans]
    rw [hop]
    have hpf : pf < 2 ^ 31 := by
      have h1 := ru_ans_le hans
      omega
    refine EV.istore_n d_Mo_tailor_4 (by decide) ?_
    refine EV.iload_n d_Mo_tailor_5 rfl ?_
    refine EV.if_ge (tgt := 16) d_Mo_tailor_6 (by decide) (fun _ => ?_) (fun h => absurd (nI_pos' hpf) h)
    refine EV.iconst (v := (-1)) d_Mo_tailor_16 (by decide) ?_
    refine EV.iload_n d_Mo_tailor_17 rfl ?_
    refine EV.isub d_Mo_tailor_18 ?_
    refine EV.istore_n d_Mo_tailor_19 (by decide) ?_
    refine EV.aload_n d_Mo_tailor_20 rfl ?_
    refine EV.iconst (v := nI 0) d_Mo_tailor_21 (by decide) ?_
    refine EV.putI fl_Mo_53 d_Mo_tailor_22 (by first | assumption | rfl) rfl rfl rfl ?_
    refine EV.iload_n d_Mo_tailor_25 rfl ?_
    exact EV.ireturn d_Mo_tailor_26 ⟨_, rfl, rfl⟩ ⟨rfl, MI_rule hC (fun q q1 _ => mx_w_ne _ _ _ q1) (fun j hj => by rw [mx_w_eq]; simp [upd, hj]) (by rw [mx_w_eq]; simp [upd]) (ar_nil _), fun q hq => mx_w_ne _ _ _ (by omega)⟩
  · obtain ⟨qf, hq, hf2, rfl⟩ := ru_ans_r hans
    refine EV.istore_n d_Mo_tailor_4 (by decide) ?_
    refine EV.iload_n d_Mo_tailor_5 rfl ?_
    refine EV.if_ge (tgt := 16) d_Mo_tailor_6 (by decide) (fun h => absurd (show (0 : Int32) ≤ -1 from h) (by decide)) (fun _ => ?_)
    refine EV.aload_n d_Mo_tailor_9 rfl ?_
    refine EV.V0 cv_Mo_93 d_Mo_tailor_10 (by first | assumption | rfl) (sp_Mo_done hS hC.2.1.1 hC.2.1.2 hI.2.1.1 (fun c hc => by have := hI.2.1.2 c hc; omega) hf2 hq hI.2.2.1 hC.2.2.1.1 hC.2.2.1.2) ⟨Nat.le_refl _, Nat.le_refl _⟩ rfl rfl (Nat.le_of_ble_eq_true rfl) (fun rv D1 hp => ?_)
    obtain ⟨⟨hF, h8⟩, hm⟩ := hp
    cases hfo : ps_fol σ.2.1 qf.2.2 with
    | inl c =>
      have hop : op_tail σ = (c, sg_up σ 2 []) := by unfold op_tail; rw [hans]; dsimp only; rw [hfo]
      rw [hop]
      rw [hfo] at hm
      obtain ⟨rfl, m1, m2, m3⟩ := hm
      refine EV.goto (tgt := 19) d_Mo_tailor_13 (by decide) ?_
      refine EV.istore_n d_Mo_tailor_19 (by decide) ?_
      refine EV.aload_n d_Mo_tailor_20 rfl ?_
      refine EV.iconst (v := nI 0) d_Mo_tailor_21 (by decide) ?_
      refine EV.putI fl_Mo_53 d_Mo_tailor_22 (by first | assumption | rfl) rfl rfl rfl ?_
      refine EV.iload_n d_Mo_tailor_25 rfl ?_
      exact EV.ireturn d_Mo_tailor_26 ⟨_, rfl, rfl⟩ ⟨rfl, MI_tail (tb := σ.2.1) hC (fun k k0 k1 k2 k3 k4 => by rw [mx_w_ne _ _ _ k0]; exact hF k k0 k1 k2 k3 k4) (fun j j0 j3 j7 => by rw [mx_w_eq]; simp only [upd, if_neg j7]; exact h8 j j0 j3) (by rw [mx_w_eq]; simp [upd]) (by rw [mx_w_eq]; simp only [upd]; rw [if_neg (by decide), m3]; exact hC.2.2.1.1) (by rw [mx_w_ne _ _ _ (by omega), mx_w_ne _ _ _ (by omega), m1, m2]; exact hC.2.2.1.2), fun q hq => by rw [mx_w_ne _ _ _ (by omega)]; exact hF q (by omega) (by omega) (by omega) (by omega) (by omega)⟩
    | inr tb =>
      have hop : op_tail σ = (nI tb.length, ((sg_up σ 2 []).1, tb, σ.2.2)) := by unfold op_tail; rw [hans]; dsimp only; rw [hfo]
      rw [hop]
      rw [hfo] at hm
      obtain ⟨rfl, m1, m2⟩ := hm
      refine EV.goto (tgt := 19) d_Mo_tailor_13 (by decide) ?_
      refine EV.istore_n d_Mo_tailor_19 (by decide) ?_
      refine EV.aload_n d_Mo_tailor_20 rfl ?_
      refine EV.iconst (v := nI 0) d_Mo_tailor_21 (by decide) ?_
      refine EV.putI fl_Mo_53 d_Mo_tailor_22 (by first | assumption | rfl) rfl rfl rfl ?_
      refine EV.iload_n d_Mo_tailor_25 rfl ?_
      exact EV.ireturn d_Mo_tailor_26 ⟨_, rfl, rfl⟩ ⟨rfl, MI_tail (tb := tb) hC (fun k k0 k1 k2 k3 k4 => by rw [mx_w_ne _ _ _ k0]; exact hF k k0 k1 k2 k3 k4) (fun j j0 j3 j7 => by rw [mx_w_eq]; simp only [upd, if_neg j7]; exact h8 j j0 j3) (by rw [mx_w_eq]; simp [upd]) (by rw [mx_w_eq]; simp only [upd]; rw [if_neg (by decide)]; exact m1) (by rw [mx_w_ne _ _ _ (by omega), mx_w_ne _ _ _ (by omega)]; exact m2), fun q hq => by rw [mx_w_ne _ _ _ (by omega)]; exact hF q (by omega) (by omega) (by omega) (by omega) (by omega)⟩
