theorem nw_0 : ([some none, some none, some none, none, none] : List (Option (Option Nat))).length = (0, TX0, 5).2.2 ∧ ∀ j, j < 5 → defaultValue ((parseFieldDescriptor (TX0 j).2.2.1).getD .int) = mx_rd 0 (([some none, some none, some none, none, none] : List (Option (Option Nat))).getD j none) := ⟨rfl, by decide +kernel⟩
theorem nw_1 : ([some none, none] : List (Option (Option Nat))).length = (0, TX1, 2).2.2 ∧ ∀ j, j < 2 → defaultValue ((parseFieldDescriptor (TX1 j).2.2.1).getD .int) = mx_rd 0 (([some none, none] : List (Option (Option Nat))).getD j none) := ⟨rfl, by decide +kernel⟩
theorem nw_2 : ([some none, some none, some none, some none, none, none, none, none, none, none] : List (Option (Option Nat))).length = (0, TX2, 10).2.2 ∧ ∀ j, j < 10 → defaultValue ((parseFieldDescriptor (TX2 j).2.2.1).getD .int) = mx_rd 0 (([some none, some none, some none, some none, none, none, none, none, none, none] : List (Option (Option Nat))).getD j none) := ⟨rfl, by decide +kernel⟩
theorem nw_3 : ([some none, none] : List (Option (Option Nat))).length = (0, TX3, 2).2.2 ∧ ∀ j, j < 2 → defaultValue ((parseFieldDescriptor (TX3 j).2.2.1).getD .int) = mx_rd 0 (([some none, none] : List (Option (Option Nat))).getD j none) := ⟨rfl, by decide +kernel⟩
theorem nw_4 : ([some none, some none, none, none, none] : List (Option (Option Nat))).length = (0, TX4, 5).2.2 ∧ ∀ j, j < 5 → defaultValue ((parseFieldDescriptor (TX4 j).2.2.1).getD .int) = mx_rd 0 (([some none, some none, none, none, none] : List (Option (Option Nat))).getD j none) := ⟨rfl, by decide +kernel⟩
theorem nw_5 : ([some none, some none, some none, some none, some none, none] : List (Option (Option Nat))).length = (0, TX5, 6).2.2 ∧ ∀ j, j < 6 → defaultValue ((parseFieldDescriptor (TX5 j).2.2.1).getD .int) = mx_rd 0 (([some none, some none, some none, some none, some none, none] : List (Option (Option Nat))).getD j none) := ⟨rfl, by decide +kernel⟩
theorem nw_6 : ([some none, some none, some none, some none, some none, some none, some none] : List (Option (Option Nat))).length = (0, TX6, 7).2.2 ∧ ∀ j, j < 7 → defaultValue ((parseFieldDescriptor (TX6 j).2.2.1).getD .int) = mx_rd 0 (([some none, some none, some none, some none, some none, some none, some none] : List (Option (Option Nat))).getD j none) := ⟨rfl, by decide +kernel⟩
theorem nw_7 : ([none, some none, some none, none, some none, some none, some none, none, some none, some none, some none, none, none, none, none, none, some none, none, some none, none, none, some none, some none] : List (Option (Option Nat))).length = (0, TX7, 23).2.2 ∧ ∀ j, j < 23 → defaultValue ((parseFieldDescriptor (TX7 j).2.2.1).getD .int) = mx_rd 0 (([none, some none, some none, none, some none, some none, some none, none, some none, some none, some none, none, none, none, none, none, some none, none, some none, none, none, some none, some none] : List (Option (Option Nat))).getD j none) := ⟨rfl, by decide +kernel⟩
def tb_k : Nat → ps_T
  | 0 => [([32], 1), ([45], 1)]
  | k + 1 => tb_k k ++ [([97 + k], 1), ([65 + k], 3)]
theorem tb_k_len : ∀ k, (tb_k k).length = 2 + 2 * k := by
  intro k
  induction k with
  | zero => rfl
  | succ k ih => rw [tb_k, List.length_append, ih]; simp; omega
theorem ps_enc1 (b c : Nat) : ps_enc b [c] = c := by simp [ps_enc]
theorem TBf_sn {b : Nat} {f g : Nat → Int32} {tb : ps_T} {s : List Nat} {y : Nat} (h : TBf b f g tb) : TBf b (upd f tb.length (nI (ps_enc b s))) (upd g tb.length (nI y)) (tb ++ [(s, y)]) := by
  intro i e he
  unfold upd
  by_cases hi : i = tb.length
  · subst hi
    simp at he
    subst he
    simp
  · have hl : i < tb.length := by
      have := (List.getElem?_eq_some_iff.mp he).1
      rw [List.length_append, List.length_singleton] at this
      omega
    rw [List.getElem?_append_left hl] at he
    rw [if_neg hi, if_neg hi]
    exact h i e he
theorem fx_ins_end (f : Nat → Int32) (x : Int32) (n : Nat) : fx_ins f n x n = upd f n x := by unfold fx_ins; rw [fx_sh_0]
theorem tb8_nd : ((tb_k 8).map Prod.fst).Nodup := by decide
theorem tb8_ok : ps_ok (tb_k 8) := by
  refine ⟨?_, by decide, fun i j a b ha hb hab => ?_⟩
  · have h : ∀ e ∈ tb_k 8, (1 ≤ e.1.length ∧ e.1.length ≤ 3 ∧ ∀ c ∈ e.1, 0 < c ∧ c < 128) ∧ 1 ≤ e.2 ∧ e.2 ≤ 4 := by decide
    exact h
  · have h1 : ((tb_k 8).map Prod.fst)[i]? = some a.1 := by rw [List.getElem?_map, ha]; rfl
    have h2 : ((tb_k 8).map Prod.fst)[j]? = some b.1 := by rw [List.getElem?_map, hb]; rfl
    have hl := (List.getElem?_eq_some_iff.mp h1).1
    exact (List.getElem?_inj hl tb8_nd).mp (by rw [h1, h2, hab])
def σ0 : sg := (fun _ => [], tb_k 8, (3, false, false), [], 0)
theorem si_0 : SI σ0 := by
  refine ⟨⟨⟨by decide, fun c hc => by cases hc⟩, ⟨by decide, fun c hc => by cases hc⟩⟩, ⟨by decide, fun c hc => by cases hc⟩, tb8_ok, fun c hc => ?_, ⟨by decide, by decide⟩, by decide, fun e he => (by cases he), fun i j a b ha => by simp [σ0] at ha⟩
  have hc2 : c = 32 ∨ c = 45 ∨ (97 ≤ c ∧ c ≤ 104) ∨ (65 ≤ c ∧ c ≤ 72) := by
    unfold ps_letter ps_var at hc
    simp at hc
    omega
  have key : ∀ c, c < 128 → (c = 32 ∨ c = 45 ∨ (97 ≤ c ∧ c ≤ 104) ∨ (65 ≤ c ∧ c ≤ 72)) → ∃ e ∈ tb_k 8, e.1 = [c] := by decide
  exact key c (by omega) hc2
set_option maxHeartbeats 4000000 in
set_option maxRecDepth 100000 in
theorem in_Li {G : mx_G} {d : Nat} {S : List mx_Sh} {D : mx_Mem} {k n : Nat} (hn : n ≤ 24) (hk : S[k]? = some (.inl (3, [some none, none]))) : EV G (d + 1) m_Li_init 0 (mx_lc0 m_Li_init [.ref k, .int (nI n)]) [] S D ((S ++ [(Sum.inr (Sum.inl (1, n)) : mx_Sh)]).set k (Sum.inl (3, [some (some S.length), none]))) (fun rv D' => rv = none ∧ (∀ q, ¬ q = k → ¬ q = S.length → D' q = D q) ∧ D' k 1 = nI 0) := by
  have hkl : k < S.length := (List.getElem?_eq_some_iff.mp hk).1
  show EV _ _ _ _ [some (.ref k), some (.int (nI n))] [] _ _ _ _
  refine EV.aload_n d_Li_init_0 rfl ?_
  refine EV.oinit (mx_in 68 (by decide +kernel) (by decide +kernel)) mx_oi d_Li_init_1 rfl (Nat.le_of_ble_eq_true rfl) ?_
  refine EV.aload_n d_Li_init_4 rfl ?_
  refine EV.iload_n d_Li_init_5 rfl ?_
  refine EV.newa (t := 1) (N := n) (ty := .char) rfl rfl (mx_in 80 (by decide +kernel) (by decide +kernel)) rfl (nI_pos (by omega)) (nI_clamp (by omega)) (by show n * 2 ≤ 536870912; omega) d_Li_init_6 ?_
  refine EV.putR ff_Li_7 rfl d_Li_init_8 (show (S ++ [(Sum.inr (Sum.inl (1, n)) : mx_Sh)])[k]? = some (.inl (3, [some none, none])) from by rw [List.getElem?_append_left hkl]; exact hk) rfl (fun _ => rfl) (fun _ => rfl) ?_
  refine EV.aload_n d_Li_init_11 rfl ?_
  refine EV.iconst (v := nI 0) d_Li_init_12 (by decide) ?_
  refine EV.putI fl_Li_13 d_Li_init_13 (List.getElem?_set_self (by rw [List.length_append]; omega)) rfl rfl rfl ?_
  exact EV.return_ d_Li_init_16 rfl ⟨rfl, fun q q1 q2 => by simp [mx_w, mx_z, va_up, q1, q2], by simp [mx_w, va_up, upd]⟩
set_option maxHeartbeats 4000000 in
set_option maxRecDepth 100000 in
theorem in_Ke {G : mx_G} {d : Nat} {S : List mx_Sh} {D : mx_Mem} {k : Nat} (hk : S[k]? = some (.inl (1, [some none, none]))) : EV G (d + 1) m_Ke_init 0 (mx_lc0 m_Ke_init [.ref k]) [] S D ((S ++ [(Sum.inr (Sum.inl (0, 52)) : mx_Sh)]).set k (Sum.inl (1, [some (some S.length), none]))) (fun rv D' => rv = none ∧ (∀ q, ¬ q = k → ¬ q = S.length → D' q = D q) ∧ D' k 1 = nI 0) := by
  have hkl : k < S.length := (List.getElem?_eq_some_iff.mp hk).1
  show EV _ _ _ _ [some (.ref k)] [] _ _ _ _
  refine EV.aload_n d_Ke_init_0 rfl ?_
  refine EV.oinit (mx_in 85 (by decide +kernel) (by decide +kernel)) mx_oi d_Ke_init_1 rfl (Nat.le_of_ble_eq_true rfl) ?_
  refine EV.aload_n d_Ke_init_4 rfl ?_
  refine EV.bipush (v := nI 52) d_Ke_init_5 (by decide) ?_
  refine EV.newa (t := 0) (N := 52) (ty := .int) rfl rfl (mx_in 96 (by decide +kernel) (by decide +kernel)) rfl (by decide) (by decide) (by decide) d_Ke_init_7 ?_
  refine EV.putR ff_Ke_9 rfl d_Ke_init_9 (show (S ++ [(Sum.inr (Sum.inl (0, 52)) : mx_Sh)])[k]? = some (.inl (1, [some none, none])) from by rw [List.getElem?_append_left hkl]; exact hk) rfl (fun _ => rfl) (fun _ => rfl) ?_
  refine EV.aload_n d_Ke_init_12 rfl ?_
  refine EV.iconst (v := nI 0) d_Ke_init_13 (by decide) ?_
  refine EV.putI fl_Ke_15 d_Ke_init_14 (List.getElem?_set_self (by rw [List.length_append]; omega)) rfl rfl rfl ?_
  exact EV.return_ d_Ke_init_17 rfl ⟨rfl, fun q q1 q2 => by simp [mx_w, mx_z, va_up, q1, q2], by simp [mx_w, va_up, upd]⟩
theorem in_ins {G : mx_G} {d : Nat} {S : List mx_Sh} {D : mx_Mem} {t p c y : Nat} {tb : ps_T} {x : Int32} (hT : ShT S t) (hc : D t 5 = nI tb.length) (hB : TBf 256 (D (t + 1)) (D (t + 2)) tb) (hl : tb.length < 30) (hp : p = tb.length) (hx : x = nI c) : EV G d m_Ta_insert 0 (mx_lc0 m_Ta_insert [.ref t, .int (nI p), .int x, .int (nI y)]) [] S D S (fun rv D' => rv = none ∧ D' t 5 = nI (tb ++ [([c], y)]).length ∧ TBf 256 (D' (t + 1)) (D' (t + 2)) (tb ++ [([c], y)]) ∧ ∀ q, ¬ q = t → ¬ q = t + 1 → ¬ q = t + 2 → D' q = D q) := by
  subst hp hx
  refine EV.post (fun rv D' h => ?_) (sp_Ta_insert hT hc hl (Nat.le_refl _))
  obtain ⟨h0, h1, h2, h3, h4⟩ := h
  refine ⟨h0, by rw [h3, List.length_append]; simp [upd], ?_, h4⟩
  rw [h1, h2, fx_ins_end, fx_ins_end]
  have := TBf_sn (s := [c]) (y := y) hB
  rw [ps_enc1] at this
  exact this
set_option maxHeartbeats 4000000 in
set_option maxRecDepth 100000 in
theorem lp_Ta_init {G : mx_G} {d : Nat} {S : List mx_Sh} {D0 : mx_Mem} {t : Nat} (hT : ShT S t) : ∀ (m k : Nat) (D : mx_Mem), k ≤ 8 → 8 - k = m → (∀ q, q < t → D q = D0 q) → D t 5 = nI (tb_k k).length → TBf 256 (D (t + 1)) (D (t + 2)) (tb_k k) → EV G (d + 1) m_Ta_init 62 [some (.ref t), some (.int (nI k))] [] S D S (fun rv D' => rv = none ∧ (∀ q, q < t → D' q = D0 q) ∧ TBw D' t (tb_k 8)) := by
  obtain ⟨hs0, hs1, hs2, hs3, hs4, hs5⟩ := id hT
  intro m
  induction m with
  | zero =>
    intro k D h1 h2 ho hc hB
    have ek : k = 8 := by omega
    subst ek
    have hw := TBf_stp tb8_ok hB
    refine EV.iload_n d_Ta_init_62 rfl ?_
    refine EV.bipush (v := nI 8) d_Ta_init_63 (by decide) ?_
    refine EV.icmp_geN (tgt := 102) d_Ta_init_65 (by decide) rfl rfl (by omega) (by omega) (fun _ => ?_) (fun h => absurd h (by omega))
    refine EV.aload_n d_Ta_init_102 rfl ?_
    refine EV.V0 cv_Ta_31 d_Ta_init_103 (by first | assumption | rfl) (sp_Ta_weigh hT hc (by decide) hw) ⟨Nat.le_refl _, Nat.le_refl _⟩ rfl rfl (Nat.le_of_ble_eq_true rfl) (fun rv D1 hp => ?_)
    obtain ⟨rfl, q1, q2⟩ := hp
    exact EV.return_ d_Ta_init_106 rfl ⟨rfl, fun q hq => (q2 q (by omega) (by omega) (by omega)).trans (ho q hq), by rw [q2 t (by omega) (by omega) (by omega)]; exact hc, by rw [q2 (t + 1) (by omega) (by omega) (by omega), q2 (t + 2) (by omega) (by omega) (by omega)]; exact hB, q1⟩
  | succ m ih =>
    intro k D h1 h2 ho hc hB
    have hl := tb_k_len k
    refine EV.iload_n d_Ta_init_62 rfl ?_
    refine EV.bipush (v := nI 8) d_Ta_init_63 (by decide) ?_
    refine EV.icmp_geN (tgt := 102) d_Ta_init_65 (by decide) rfl rfl (by omega) (by omega) (fun h => absurd h (by omega)) (fun _ => ?_)
    refine EV.aload_n d_Ta_init_68 rfl ?_
    refine EV.iconst (v := nI 2) d_Ta_init_69 (by decide) ?_
    refine EV.iconst (v := nI 2) d_Ta_init_70 (by decide) ?_
    refine EV.iload_n d_Ta_init_71 rfl ?_
    refine EV.imul d_Ta_init_72 ?_
    refine EV.iadd d_Ta_init_73 ?_
    refine EV.top (y := nI (2 + 2 * k)) (by rw [pk_mul, nI_add]) ?_
    refine EV.bipush (v := nI 97) d_Ta_init_74 (by decide) ?_
    refine EV.iload_n d_Ta_init_76 rfl ?_
    refine EV.iadd d_Ta_init_77 ?_
    refine EV.iconst (v := nI 1) d_Ta_init_78 (by decide) ?_
    refine EV.V3 cv_Ta_27 d_Ta_init_79 (by first | assumption | rfl) (in_ins (c := 97 + k) (y := 1) hT hc hB (by omega) (by omega) (nI_add _ _)) ⟨Nat.le_refl _, Nat.le_refl _⟩ rfl rfl (Nat.le_of_ble_eq_true rfl) (fun rv D1 hp => ?_)
    obtain ⟨rfl, p1, p2, p3⟩ := hp
    refine EV.aload_n d_Ta_init_82 rfl ?_
    refine EV.iconst (v := nI 3) d_Ta_init_83 (by decide) ?_
    refine EV.iconst (v := nI 2) d_Ta_init_84 (by decide) ?_
    refine EV.iload_n d_Ta_init_85 rfl ?_
    refine EV.imul d_Ta_init_86 ?_
    refine EV.iadd d_Ta_init_87 ?_
    refine EV.top (y := nI (3 + 2 * k)) (by rw [pk_mul, nI_add]) ?_
    refine EV.bipush (v := nI 65) d_Ta_init_88 (by decide) ?_
    refine EV.iload_n d_Ta_init_90 rfl ?_
    refine EV.iadd d_Ta_init_91 ?_
    refine EV.iconst (v := nI 3) d_Ta_init_92 (by decide) ?_
    refine EV.V3 cv_Ta_27 d_Ta_init_93 (by first | assumption | rfl) (in_ins (c := 65 + k) (y := 3) hT p1 p2 (by rw [List.length_append]; simp; omega) (by rw [List.length_append]; simp; omega) (nI_add _ _)) ⟨Nat.le_refl _, Nat.le_refl _⟩ rfl rfl (Nat.le_of_ble_eq_true rfl) (fun rv D1 hp => ?_)
    obtain ⟨rfl, r1, r2, r3⟩ := hp
    refine EV.iincN d_Ta_init_96 rfl (by decide) ?_
    refine EV.goto (tgt := 62) d_Ta_init_99 (by decide) ?_
    have e : tb_k (k + 1) = (tb_k k ++ [([97 + k], 1)]) ++ [([65 + k], 3)] := by rw [tb_k, List.append_assoc]; rfl
    exact ih (k + 1) D1 (by omega) (by omega) (fun q hq => (r3 q (by omega) (by omega) (by omega)).trans ((p3 q (by omega) (by omega) (by omega)).trans (ho q hq))) (by rw [e]; exact r1) (by rw [e]; exact r2)
