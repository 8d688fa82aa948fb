theorem si_up {σ : sg} (h : SI σ) {j : Nat} {xs : List Nat} (h1 : ¬ j = 2 → ps_to xs) (h2 : j = 2 → xs.length ≤ 24 ∧ ∀ c ∈ xs, 32 ≤ c ∧ c ≤ 126) : SI (sg_up σ j xs) := by
  obtain ⟨⟨a, b⟩, c, r⟩ := h
  refine ⟨⟨?_, ?_⟩, ?_, r⟩
  · show ps_to (if 0 = j then xs else σ.1 0)
    split
    · exact h1 (by omega)
    · exact a
  · show ps_to (if 1 = j then xs else σ.1 1)
    split
    · exact h1 (by omega)
    · exact b
  · show (if 2 = j then xs else σ.1 2).length ≤ 24 ∧ ∀ c ∈ (if 2 = j then xs else σ.1 2), 32 ≤ c ∧ c ≤ 126
    split
    · rename_i q; exact h2 q.symm
    · exact c
theorem ln3_s {x : Int32} {j : Nat} (h : ln3 x = some j) : j = 0 ∨ j = 1 ∨ j = 2 := by
  unfold ln3 at h
  split at h
  · cases h; simp
  · split at h
    · cases h; simp
    · split at h
      · cases h; simp
      · cases h
theorem si_type {σ : sg} (h : SI σ) (x : Int32) (c : Nat) : SI (op_type σ x c).2 ∧ (op_type σ x c).2.2.2.2.2 = σ.2.2.2.2 := by
  unfold op_type
  cases hj : ln3 x with
  | none => exact ⟨h, rfl⟩
  | some j =>
    dsimp only
    by_cases hc : (if j = 2 then decide (32 ≤ c ∧ c ≤ 126) else ps_txt c) = true ∧ (σ.1 j).length < (if j = 2 then 24 else 12)
    · rw [if_pos hc]
      refine ⟨si_up h (fun hn => ?_) (fun h2 => ?_), rfl⟩
      · have hto : ps_to (σ.1 j) := by
          rcases ln3_s hj with rfl | rfl | rfl
          · exact h.1.1
          · exact h.1.2
          · exact absurd rfl hn
        rw [if_neg hn, if_neg hn] at hc
        refine ⟨by rw [List.length_append, List.length_singleton]; omega, fun y hy => ?_⟩
        rcases List.mem_append.mp hy with q | q
        · exact hto.2 y q
        · rw [List.mem_singleton] at q; subst q; exact hc.1
      · subst h2
        rw [if_pos rfl, if_pos rfl] at hc
        have hd := of_decide_eq_true hc.1
        refine ⟨by rw [List.length_append, List.length_singleton]; omega, fun y hy => ?_⟩
        rcases List.mem_append.mp hy with q | q
        · exact h.2.1.2 y q
        · rw [List.mem_singleton] at q; subst q; exact hd
    · rw [if_neg hc]; exact ⟨h, rfl⟩
theorem si_wipe {σ : sg} (h : SI σ) (x : Int32) : SI (op_wipe σ x).2 ∧ (op_wipe σ x).2.2.2.2.2 = σ.2.2.2.2 := by
  unfold op_wipe
  cases hj : ln3 x with
  | none => exact ⟨h, rfl⟩
  | some j => exact ⟨si_up h (fun _ => ⟨by simp, fun c hc => by cases hc⟩) (fun _ => ⟨by simp, fun c hc => by cases hc⟩), rfl⟩
theorem si_form {σ : sg} (h : SI σ) (x : Int32) (b1 b2 : Bool) : SI (op_form σ x b1 b2).2 ∧ (op_form σ x b1 b2).2.2.2.2.2 = σ.2.2.2.2 := by
  unfold op_form
  split
  · exact ⟨h, rfl⟩
  · rename_i hx
    obtain ⟨a, b, c, e, -, f⟩ := h
    refine ⟨⟨a, b, c, e, ?_, f⟩, rfl⟩
    rcases pk_ix x (n := 5) (by decide) with q | q | ⟨j, hj, rfl⟩
    · exact absurd (Or.inl (Int32.lt_trans q (by decide))) hx
    · exact absurd (Or.inr (Int32.lt_of_lt_of_le (by decide) q)) hx
    · show 1 ≤ (nI j).toNatClampNeg ∧ (nI j).toNatClampNeg ≤ 4
      rw [nI_clamp (by omega)]
      refine ⟨?_, by omega⟩
      rcases Nat.eq_zero_or_pos j with q | q
      · subst q; exact absurd (Or.inl (by decide)) hx
      · exact q
theorem si_put {σ : sg} (h : SI σ) {xs : List Nat} (hx : ps_to xs) : SI (op_put σ xs).2 ∧ (op_put σ xs).2.2.2.2.2 ≤ σ.2.2.2.2 + 1 := by
  unfold op_put
  split
  · rename_i hl
    obtain ⟨a, b, c, e, f, g1, g2, g3⟩ := h
    refine ⟨⟨a, b, c, e, f, ?_, ?_, ?_⟩, Nat.le_refl _⟩
    · show (σ.2.2.2.1 ++ [(σ.2.2.2.2, xs)]).length ≤ 10
      rw [List.length_append, List.length_singleton]; omega
    · intro y hy
      have hy' : y ∈ σ.2.2.2.1 ++ [(σ.2.2.2.2, xs)] := hy
      show ps_to y.2 ∧ y.1 < σ.2.2.2.2 + 1
      rcases List.mem_append.mp hy' with q | q
      · have := g2 y q; exact ⟨this.1, by omega⟩
      · rw [List.mem_singleton] at q; subst q; exact ⟨hx, by simp⟩
    · intro i j u v hu hv huv
      have hu' : (σ.2.2.2.1 ++ [(σ.2.2.2.2, xs)])[i]? = some u := hu
      have hv' : (σ.2.2.2.1 ++ [(σ.2.2.2.2, xs)])[j]? = some v := hv
      have key : ∀ k w, (σ.2.2.2.1 ++ [(σ.2.2.2.2, xs)])[k]? = some w → (k < σ.2.2.2.1.length ∧ σ.2.2.2.1[k]? = some w ∧ w.1 < σ.2.2.2.2) ∨ (k = σ.2.2.2.1.length ∧ w.1 = σ.2.2.2.2) := fun k w hw => by
        rcases Nat.lt_or_ge k σ.2.2.2.1.length with q | q
        · rw [List.getElem?_append_left q] at hw
          exact Or.inl ⟨q, hw, (g2 w (List.mem_of_getElem? hw)).2⟩
        · have hl2 := (List.getElem?_eq_some_iff.mp hw).1
          rw [List.length_append, List.length_singleton] at hl2
          have e1 : k = σ.2.2.2.1.length := by omega
          subst e1
          simp at hw
          subst hw
          exact Or.inr ⟨rfl, rfl⟩
      rcases key i u hu' with ⟨i1, i2, i3⟩ | ⟨i1, i2⟩ <;> rcases key j v hv' with ⟨j1, j2, j3⟩ | ⟨j1, j2⟩
      · exact g3 i j u v i2 j2 huv
      · omega
      · omega
      · omega
  · exact ⟨h, by simp⟩
theorem si_file {σ : sg} (h : SI σ) (x : Int32) : SI (op_file σ x).2 ∧ (op_file σ x).2.2.2.2.2 ≤ σ.2.2.2.2 + 1 := by
  unfold op_file
  split
  · exact si_put h h.1.1
  · split
    · exact si_put h h.1.2
    · exact ⟨h, by simp⟩
theorem si_unf {σ : sg} (h : SI σ) (x : Int32) : SI (op_unf σ x).2 ∧ (op_unf σ x).2.2.2.2.2 = σ.2.2.2.2 := by
  unfold op_unf
  split
  · rename_i i hi
    obtain ⟨a, b, c, e, f, g1, g2, g3⟩ := h
    refine ⟨⟨a, b, c, e, f, ?_, ?_, ?_⟩, rfl⟩
    · show (σ.2.2.2.1.eraseIdx i).length ≤ 10
      have := List.length_eraseIdx_le σ.2.2.2.1 i
      omega
    · intro y hy
      exact g2 y (List.mem_of_mem_eraseIdx hy)
    · intro k l u v hu hv huv
      have hu' : (σ.2.2.2.1.eraseIdx i)[k]? = some u := hu
      have hv' : (σ.2.2.2.1.eraseIdx i)[l]? = some v := hv
      rw [List.getElem?_eraseIdx] at hu' hv'
      by_cases hk : k < i <;> by_cases hl : l < i
      · rw [if_pos hk] at hu'; rw [if_pos hl] at hv'; exact g3 k l u v hu' hv' huv
      · rw [if_pos hk] at hu'; rw [if_neg hl] at hv'; have := g3 k (l + 1) u v hu' hv' huv; omega
      · rw [if_neg hk] at hu'; rw [if_pos hl] at hv'; have := g3 (k + 1) l u v hu' hv' huv; omega
      · rw [if_neg hk] at hu'; rw [if_neg hl] at hv'; have := g3 (k + 1) (l + 1) u v hu' hv' huv; omega
  · exact ⟨h, rfl⟩
theorem ru_rd_wf : ∀ (ys : List Nat) (q : ru_Q) (i : Nat) (qf : ru_Q), ru_wf q i → ru_rd q i ys = .inr qf → ru_wf qf (i + ys.length) := by
  intro ys
  induction ys with
  | nil => intro q i qf hw h; simp only [ru_rd] at h; cases h; simpa using hw
  | cons c r ih =>
    intro q i qf hw h
    simp only [ru_rd] at h
    cases hg : ru_st q c with
    | none => rw [hg] at h; cases h
    | some q' =>
      rw [hg] at h
      have := ih q' (i + 1) qf (ru_st_wf hw hg) h
      rw [List.length_cons, show i + (r.length + 1) = i + 1 + r.length by omega]
      exact this
theorem si_tail {σ : sg} (h : SI σ) : SI (op_tail σ).2 ∧ (op_tail σ).2.2.2.2.2 = σ.2.2.2.2 := by
  have hu : SI (sg_up σ 2 []) := si_up h (fun q => absurd rfl q) (fun _ => ⟨by simp, fun c hc => by cases hc⟩)
  unfold op_tail
  cases ha : ru_ans (σ.1 2).length (ru_rd (0, 0, []) 0 (σ.1 2)) with
  | inl p => exact ⟨hu, rfl⟩
  | inr rl =>
    dsimp only
    cases hf : ps_fol σ.2.1 rl with
    | inl c => exact ⟨hu, rfl⟩
    | inr tb =>
      have hrl : RLo rl := by
        obtain ⟨qf, hq, h2, rfl⟩ := ru_ans_r ha
        have hlen : 1 < qf.2.2.length := by
          rw [hq] at ha
          simp only [ru_ans] at ha
          split at ha
          · rename_i hc; exact hc.2
          · cases ha
        obtain ⟨w1, w2, w3, w4, w5, w6, w7, w8⟩ := ru_rd_wf _ _ _ _ (⟨by decide, by decide, by decide, fun e he => (by cases he), fun h => absurd h (by decide), fun _ => rfl, fun h => absurd h (by decide), fun i e _ he => (by cases he)⟩ : ru_wf (0, 0, []) 0) hq
        have := h.2.1.1
        exact ⟨by omega, by omega, fun e he => (w4 e he).1, fun i e hi he => ⟨w8 i e hi he, (w4 e (List.mem_of_getElem? he)).2⟩⟩
      obtain ⟨k1, k2⟩ := ps_fol_ok h.2.2.1 hrl hf
      obtain ⟨a, b, c, e, f⟩ := hu
      exact ⟨⟨a, b, k1, fun c hc => k2 _ (e c hc), f⟩, rfl⟩
theorem CI_80 {D D' : mx_Mem} {σ : sg} (hI : SI σ) (h : CI D σ) (hF : ∀ q, q < 80 → D' q = D q) : CI D' σ := CI_kept h hI.2.2.2.2.2.1 (fun q _ hq _ _ _ _ _ => hF q hq) (fun j _ _ _ => by rw [hF 28 (by omega)])
theorem MI_80 {D D' : mx_Mem} {σ : sg} (h : MI D σ) (hF : ∀ q, 80 ≤ q → D' q = D q) : MI D' σ := MI_kept h (fun j _ => by rw [hF 80 (by omega)]) (hF _ (by omega)) (hF _ (by omega)) (hF _ (by omega)) (hF _ (by omega)) (hF _ (by omega)) (hF _ (by omega))
