/-! the table's own methods, over its five rows and its count -/
def ShT (S : List mx_Sh) (t : Nat) : Prop := S[t]? = some (.inl (5, [some (some (t + 1)), some (some (t + 2)), some (some (t + 3)), some (some (t + 4)), some (some (t + 5)), none])) ∧ S[t + 1]? = some (.inr (.inl (0, 30))) ∧ S[t + 2]? = some (.inr (.inl (0, 30))) ∧ S[t + 3]? = some (.inr (.inl (0, 30))) ∧ S[t + 4]? = some (.inr (.inl (0, 30))) ∧ S[t + 5]? = some (.inr (.inl (0, 30)))
/-- r is the first place below n where f is x, or -1 -/
def Fnd (f : Nat → Int32) (x : Int32) (n : Nat) (r : Int32) : Prop := (∃ i, i < n ∧ f i = x ∧ (∀ j, j < i → ¬ f j = x) ∧ r = nI i) ∨ ((∀ j, j < n → ¬ f j = x) ∧ r = -1)
theorem nI0_c : (nI 0).toNatClampNeg = 0 := by decide
theorem nI30_c : (nI 30).toNatClampNeg = 30 := by decide
theorem mx_w_eq (D : mx_Mem) (k j : Nat) (x : Int32) : mx_w D k j x k = upd (D k) j x := by simp [mx_w, va_up]
theorem mx_w_ne (D : mx_Mem) {k k' : Nat} (j : Nat) (x : Int32) (h : ¬ k' = k) : mx_w D k j x k' = D k' := by simp [mx_w, va_up, h]
def fx_sh (f : Nat → Int32) (i n : Nat) : Nat → Int32 := fun j => if i < j ∧ j ≤ n then f (j - 1) else f j
def fx_ins (f : Nat → Int32) (p : Nat) (x : Int32) (n : Nat) : Nat → Int32 := upd (fx_sh f p n) p x
def fx_dl (f : Nat → Int32) (p i : Nat) : Nat → Int32 := fun j => if p ≤ j ∧ j + 1 < i then f (j + 1) else f j
theorem fx_sh_0 (f : Nat → Int32) (n : Nat) : fx_sh f n n = f := by
  funext j
  unfold fx_sh
  rw [if_neg (by omega)]
theorem fx_sh_s (f : Nat → Int32) {i n : Nat} (h : i + 1 ≤ n) : upd (fx_sh f (i + 1) n) (i + 1) (fx_sh f (i + 1) n i) = fx_sh f i n := by
  funext j
  unfold fx_sh upd
  by_cases h1 : j = i + 1
  · subst h1
    rw [if_pos rfl, if_neg (by omega), if_pos (by omega)]
    rfl
  · rw [if_neg h1]
    dsimp only
    by_cases h2 : i + 1 < j ∧ j ≤ n
    · rw [if_pos h2, if_pos (by omega)]
    · rw [if_neg h2, if_neg (by omega)]
theorem fx_dl_0 (f : Nat → Int32) (p : Nat) : fx_dl f p (p + 1) = f := by
  funext j
  unfold fx_dl
  rw [if_neg (by omega)]
theorem fx_dl_s (f : Nat → Int32) {p i : Nat} (h : p ≤ i) : upd (fx_dl f p (i + 1)) i (fx_dl f p (i + 1) (i + 1)) = fx_dl f p (i + 2) := by
  funext j
  unfold fx_dl upd
  by_cases h1 : j = i
  · subst h1
    rw [if_pos rfl, if_neg (by omega), if_pos (by omega)]
  · rw [if_neg h1]
    dsimp only
    by_cases h2 : p ≤ j ∧ j + 1 < i + 1
    · rw [if_pos h2, if_pos (by omega)]
    · rw [if_neg h2, if_neg (by omega)]
/-- the step of the entry behind the one that goes is the lesser of the two -/
def fx_mn (g : Nat → Int32) (a n : Nat) : Nat → Int32 := if a + 1 < n then upd g (a + 1) (if g (a + 1) < g a then g (a + 1) else g a) else g
/-- p is the first place from a on (or n) whose step isn't above y -/
def Plc (g : Nat → Int32) (y : Int32) (a n p : Nat) : Prop := a ≤ p ∧ p ≤ n ∧ (∀ j, a ≤ j → j < p → y < g j) ∧ (p < n → ¬ y < g p)
def ps_ws (w : Nat × Nat × Nat) (s : Nat) : Nat × Nat × Nat := if s = 1 then (w.1 + 1, 1, 1) else if s = 2 then (w.1, w.2.1 + 1, 1) else if s = 3 then (w.1, w.2.1, w.2.2 + 1) else w
/-- the weights behind i entries with the steps sf -/
def ps_wt (sf : Nat → Nat) : Nat → Nat × Nat × Nat
  | 0 => (0, 1, 1)
  | i + 1 => ps_ws (ps_wt sf i) (sf i)
theorem ps_wt_le (sf : Nat → Nat) : ∀ i, (ps_wt sf i).1 ≤ i ∧ (ps_wt sf i).2.1 ≤ i + 1 ∧ (ps_wt sf i).2.2 ≤ i + 1 := by
  intro i
  induction i with
  | zero => simp [ps_wt]
  | succ i ih =>
    unfold ps_wt ps_ws
    split
    · simp; omega
    · split
      · simp; omega
      · split
        · simp; omega
        · omega
set_option maxHeartbeats 4000000 in
set_option maxRecDepth 100000 in
theorem lp_Ta_find {G : mx_G} {d : Nat} {S : List mx_Sh} {D : mx_Mem} {t cnt : Nat} {x : Int32} (hT : ShT S t) (hc : D t 5 = nI cnt) (hle : cnt ≤ 30) : ∀ n i : Nat, i ≤ cnt → cnt - i = n → (∀ j, j < i → ¬ D (t + 1) j = x) → EV G d m_Ta_find 2 [some (.ref t), some (.int x), some (.int (nI i))] [] S D S (fun rv D' => D' = D ∧ ∃ r, rv = some (.int r) ∧ Fnd (D (t + 1)) x cnt r) := by
  obtain ⟨hs0, hs1, hs2, hs3, hs4, hs5⟩ := id hT
  intro n
  induction n with
  | zero =>
    intro i h1 h2 h3
    refine EV.iload_n d_Ta_find_2 rfl ?_
    refine EV.aload_n d_Ta_find_3 rfl ?_
    refine EV.getI fl_Ta_34 d_Ta_find_4 (by first | assumption | rfl) rfl ?_
    refine EV.icmp_geN (tgt := 28) d_Ta_find_7 (by decide) rfl hc (by omega) (by omega) (fun h7 => ?_) (fun h7 => ?_)
    · refine EV.iconst (v := (-1)) d_Ta_find_28 (by decide) ?_
      exact EV.ireturn d_Ta_find_29 ⟨_, rfl, rfl⟩ ⟨rfl, _, rfl, Or.inr ⟨fun j hj => h3 j (by omega), rfl⟩⟩
    · exfalso
      omega
  | succ n ih =>
    intro i h1 h2 h3
    refine EV.iload_n d_Ta_find_2 rfl ?_
    refine EV.aload_n d_Ta_find_3 rfl ?_
    refine EV.getI fl_Ta_34 d_Ta_find_4 (by first | assumption | rfl) rfl ?_
    refine EV.icmp_geN (tgt := 28) d_Ta_find_7 (by decide) rfl hc (by omega) (by omega) (fun h7 => ?_) (fun h7 => ?_)
    · exfalso
      omega
    · refine EV.aload_n d_Ta_find_10 rfl ?_
      refine EV.getR fl_Ta_9 d_Ta_find_11 (by first | assumption | rfl) rfl ?_
      refine EV.iload_n d_Ta_find_14 rfl ?_
      refine EV.ialdN d_Ta_find_15 (by first | assumption | rfl) rfl rfl (by omega) (by first | decide | omega) ?_
      refine EV.iload_n d_Ta_find_16 rfl ?_
      refine EV.icmp_ne (tgt := 22) d_Ta_find_17 (by decide) (fun h17 => ?_) (fun h17 => ?_)
      · refine EV.iincN d_Ta_find_22 rfl (by decide) ?_
        refine EV.goto (tgt := 2) d_Ta_find_25 (by decide) ?_
        exact ih (i + 1) (by omega) (by omega) (fun j hj => by
          rcases Nat.lt_or_ge j i with q | q
          · exact h3 j q
          · rw [show j = i by omega]; exact h17)
      · refine EV.iload_n d_Ta_find_20 rfl ?_
        exact EV.ireturn d_Ta_find_21 ⟨_, rfl, rfl⟩ ⟨rfl, _, rfl, Or.inl ⟨i, h7, h17, h3, rfl⟩⟩
set_option maxHeartbeats 4000000 in
set_option maxRecDepth 100000 in
theorem sp_Ta_find {G : mx_G} {d : Nat} {S : List mx_Sh} {D : mx_Mem} {t cnt : Nat} {x : Int32} (hT : ShT S t) (hc : D t 5 = nI cnt) (hle : cnt ≤ 30) : EV G d m_Ta_find 0 (mx_lc0 m_Ta_find [.ref t, .int x]) [] S D S (fun rv D' => D' = D ∧ ∃ r, rv = some (.int r) ∧ Fnd (D (t + 1)) x cnt r) := by
  show EV _ _ _ _ [some (.ref t), some (.int x), none] [] _ _ _ _
  refine EV.iconst (v := nI 0) d_Ta_find_0 (by decide) ?_
  refine EV.istore_n d_Ta_find_1 (by decide) ?_
  exact lp_Ta_find hT hc hle cnt 0 (by omega) (by omega) (fun j hj => absurd hj (by omega))
set_option maxHeartbeats 4000000 in
set_option maxRecDepth 100000 in
theorem lp_Ta_insert {G : mx_G} {d : Nat} {S : List mx_Sh} {D0 : mx_Mem} {t cnt p : Nat} {x y : Int32} (hT : ShT S t) (hc : D0 t 5 = nI cnt) (hle : cnt < 30) : ∀ (n i : Nat) (D : mx_Mem), i ≤ cnt → p ≤ i → i - p = n → D (t + 1) = fx_sh (D0 (t + 1)) i cnt → D (t + 2) = fx_sh (D0 (t + 2)) i cnt → (∀ k, ¬ k = t + 1 → ¬ k = t + 2 → D k = D0 k) → EV G d m_Ta_insert 6 [some (.ref t), some (.int (nI p)), some (.int x), some (.int y), some (.int (nI i))] [] S D S (fun rv D' => rv = none ∧ D' (t + 1) = fx_ins (D0 (t + 1)) p x cnt ∧ D' (t + 2) = fx_ins (D0 (t + 2)) p y cnt ∧ D' t = upd (D0 t) 5 (nI (cnt + 1)) ∧ ∀ k, ¬ k = t → ¬ k = t + 1 → ¬ k = t + 2 → D' k = D0 k) := by
  obtain ⟨hs0, hs1, hs2, hs3, hs4, hs5⟩ := id hT
  intro n
  induction n with
  | zero =>
    intro i D h1 h2 h3 hf hg ho
    refine EV.iload d_Ta_insert_6 rfl ?_
    refine EV.iload_n d_Ta_insert_8 rfl ?_
    refine EV.icmp_leN (tgt := 50) d_Ta_insert_9 (by decide) rfl rfl (by omega) (by omega) (fun h9 => ?_) (fun h9 => ?_)
    · refine EV.aload_n d_Ta_insert_50 rfl ?_
      refine EV.getR fl_Ta_9 d_Ta_insert_51 (by first | assumption | rfl) rfl ?_
      refine EV.iload_n d_Ta_insert_54 rfl ?_
      refine EV.iload_n d_Ta_insert_55 rfl ?_
      refine EV.iastN d_Ta_insert_56 (by first | assumption | rfl) rfl rfl (by omega) (by first | decide | omega) ?_
      refine EV.aload_n d_Ta_insert_57 rfl ?_
      refine EV.getR fl_Ta_15 d_Ta_insert_58 (by first | assumption | rfl) rfl ?_
      refine EV.iload_n d_Ta_insert_61 rfl ?_
      refine EV.iload_n d_Ta_insert_62 rfl ?_
      refine EV.iastN d_Ta_insert_63 (by first | assumption | rfl) rfl rfl (by omega) (by first | decide | omega) ?_
      refine EV.aload_n d_Ta_insert_64 rfl ?_
      refine EV.dup d_Ta_insert_65 rfl ?_
      refine EV.getI fl_Ta_34 d_Ta_insert_66 (by first | assumption | rfl) rfl ?_
      refine EV.iconst (v := nI 1) d_Ta_insert_69 (by decide) ?_
      refine EV.iadd d_Ta_insert_70 ?_
      have ep : i = p := by omega
      subst ep
      refine EV.top (y := nI (cnt + 1)) (by rw [mx_w_ne _ _ _ (by omega), mx_w_ne _ _ _ (by omega), ho t (by omega) (by omega), hc]; exact nI_1 cnt) ?_
      refine EV.putI fl_Ta_34 d_Ta_insert_71 (by first | assumption | rfl) rfl rfl rfl ?_
      exact EV.return_ d_Ta_insert_74 rfl ⟨rfl, by simp [mx_w, va_up, hf, fx_ins], by simp [mx_w, va_up, hg, fx_ins], by simp [mx_w, va_up, ho t (by omega) (by omega)], fun k k1 k2 k3 => by simp [mx_w, va_up, k1, k2, k3, ho k k2 k3]⟩
    · exfalso
      omega
  | succ n ih =>
    intro i D h1 h2 h3 hf hg ho
    obtain ⟨i, rfl⟩ : ∃ i', i = i' + 1 := ⟨i - 1, by omega⟩
    refine EV.iload d_Ta_insert_6 rfl ?_
    refine EV.iload_n d_Ta_insert_8 rfl ?_
    refine EV.icmp_leN (tgt := 50) d_Ta_insert_9 (by decide) rfl rfl (by omega) (by omega) (fun h9 => ?_) (fun h9 => ?_)
    · exfalso
      omega
    · refine EV.aload_n d_Ta_insert_12 rfl ?_
      refine EV.getR fl_Ta_9 d_Ta_insert_13 (by first | assumption | rfl) rfl ?_
      refine EV.iload d_Ta_insert_16 rfl ?_
      refine EV.aload_n d_Ta_insert_18 rfl ?_
      refine EV.getR fl_Ta_9 d_Ta_insert_19 (by first | assumption | rfl) rfl ?_
      refine EV.iload d_Ta_insert_22 rfl ?_
      refine EV.iconst (v := nI 1) d_Ta_insert_24 (by decide) ?_
      refine EV.isub d_Ta_insert_25 ?_
      refine EV.ialdN d_Ta_insert_26 (by first | assumption | rfl) rfl (show _ = nI i from nI_pred i) (by omega) (by first | decide | omega) ?_
      refine EV.iastN d_Ta_insert_27 (by first | assumption | rfl) rfl rfl (by omega) (by first | decide | omega) ?_
      refine EV.aload_n d_Ta_insert_28 rfl ?_
      refine EV.getR fl_Ta_15 d_Ta_insert_29 (by first | assumption | rfl) rfl ?_
      refine EV.iload d_Ta_insert_32 rfl ?_
      refine EV.aload_n d_Ta_insert_34 rfl ?_
      refine EV.getR fl_Ta_15 d_Ta_insert_35 (by first | assumption | rfl) rfl ?_
      refine EV.iload d_Ta_insert_38 rfl ?_
      refine EV.iconst (v := nI 1) d_Ta_insert_40 (by decide) ?_
      refine EV.isub d_Ta_insert_41 ?_
      refine EV.ialdN d_Ta_insert_42 (by first | assumption | rfl) rfl (show _ = nI i from nI_pred i) (by omega) (by first | decide | omega) ?_
      refine EV.iastN d_Ta_insert_43 (by first | assumption | rfl) rfl rfl (by omega) (by first | decide | omega) ?_
      refine EV.iincM d_Ta_insert_44 rfl (by decide) ?_
      refine EV.goto (tgt := 6) d_Ta_insert_47 (by decide) ?_
      refine ih i _ (by omega) (by omega) (by omega) ?_ ?_ ?_
      · rw [mx_w_ne _ _ _ (by omega), mx_w_eq, hf]; exact fx_sh_s _ (by omega)
      · rw [mx_w_eq, mx_w_ne _ _ _ (by omega), hg]; exact fx_sh_s _ (by omega)
      · intro k k1 k2; rw [mx_w_ne _ _ _ k2, mx_w_ne _ _ _ k1]; exact ho k k1 k2
set_option maxHeartbeats 4000000 in
set_option maxRecDepth 100000 in
theorem sp_Ta_insert {G : mx_G} {d : Nat} {S : List mx_Sh} {D0 : mx_Mem} {t cnt p : Nat} {x y : Int32} (hT : ShT S t) (hc : D0 t 5 = nI cnt) (hle : cnt < 30) (hp : p ≤ cnt) : EV G d m_Ta_insert 0 (mx_lc0 m_Ta_insert [.ref t, .int (nI p), .int x, .int y]) [] S D0 S (fun rv D' => rv = none ∧ D' (t + 1) = fx_ins (D0 (t + 1)) p x cnt ∧ D' (t + 2) = fx_ins (D0 (t + 2)) p y cnt ∧ D' t = upd (D0 t) 5 (nI (cnt + 1)) ∧ ∀ k, ¬ k = t → ¬ k = t + 1 → ¬ k = t + 2 → D' k = D0 k) := by
  obtain ⟨hs0, hs1, hs2, hs3, hs4, hs5⟩ := id hT
  show EV _ _ _ _ [some (.ref t), some (.int (nI p)), some (.int x), some (.int y), none] [] _ _ _ _
  refine EV.aload_n d_Ta_insert_0 rfl ?_
  refine EV.getI fl_Ta_34 d_Ta_insert_1 (by first | assumption | rfl) rfl ?_
  refine EV.top hc ?_
  refine EV.istore d_Ta_insert_4 (by decide) ?_
  exact lp_Ta_insert hT hc hle (cnt - p) cnt D0 (by omega) hp rfl (fx_sh_0 _ _).symm (fx_sh_0 _ _).symm (fun _ _ _ => rfl)
set_option maxHeartbeats 4000000 in
set_option maxRecDepth 100000 in
theorem lp_Ta_takeOut {G : mx_G} {d : Nat} {S : List mx_Sh} {D0 : mx_Mem} {t cnt a : Nat} {g : Nat → Int32} (hT : ShT S t) (hc : D0 t 5 = nI cnt) (hle : cnt ≤ 30) : ∀ (n i : Nat) (D : mx_Mem), i ≤ cnt → a < i → cnt - i = n → D (t + 1) = fx_dl (D0 (t + 1)) a i → D (t + 2) = fx_dl g a i → (∀ k, ¬ k = t + 1 → ¬ k = t + 2 → D k = D0 k) → EV G d m_Ta_takeOut 39 [some (.ref t), some (.int (nI a)), some (.int (nI i))] [] S D S (fun rv D' => rv = none ∧ D' (t + 1) = fx_dl (D0 (t + 1)) a cnt ∧ D' (t + 2) = fx_dl g a cnt ∧ D' t = upd (D0 t) 5 (nI (cnt - 1)) ∧ ∀ k, ¬ k = t → ¬ k = t + 1 → ¬ k = t + 2 → D' k = D0 k) := by
  obtain ⟨hs0, hs1, hs2, hs3, hs4, hs5⟩ := id hT
  intro n
  induction n with
  | zero =>
    intro i D h1 h2 h3 hf hg ho
    have hc2 : D t 5 = nI cnt := by rw [ho t (by omega) (by omega)]; exact hc
    refine EV.iload_n d_Ta_takeOut_39 rfl ?_
    refine EV.aload_n d_Ta_takeOut_40 rfl ?_
    refine EV.getI fl_Ta_34 d_Ta_takeOut_41 (by first | assumption | rfl) rfl ?_
    refine EV.icmp_geN (tgt := 81) d_Ta_takeOut_44 (by decide) rfl hc2 (by omega) (by omega) (fun h44 => ?_) (fun h44 => ?_)
    · refine EV.aload_n d_Ta_takeOut_81 rfl ?_
      refine EV.dup d_Ta_takeOut_82 rfl ?_
      refine EV.getI fl_Ta_34 d_Ta_takeOut_83 (by first | assumption | rfl) rfl ?_
      refine EV.iconst (v := nI 1) d_Ta_takeOut_86 (by decide) ?_
      refine EV.isub d_Ta_takeOut_87 ?_
      have ep : i = cnt := by omega
      subst ep
      refine EV.top (y := nI (i - 1)) (by rw [hc2]; exact pk_sub (by omega)) ?_
      refine EV.putI fl_Ta_34 d_Ta_takeOut_88 (by first | assumption | rfl) rfl rfl rfl ?_
      exact EV.return_ d_Ta_takeOut_91 rfl ⟨rfl, by simp [mx_w, va_up, hf], by simp [mx_w, va_up, hg], by simp [mx_w, va_up, ho t (by omega) (by omega)], fun k k1 k2 k3 => by simp [mx_w, va_up, k1, ho k k2 k3]⟩
    · exfalso
      omega
  | succ n ih =>
    intro i D h1 h2 h3 hf hg ho
    have hc2 : D t 5 = nI cnt := by rw [ho t (by omega) (by omega)]; exact hc
    obtain ⟨i, rfl⟩ : ∃ i', i = i' + 1 := ⟨i - 1, by omega⟩
    refine EV.iload_n d_Ta_takeOut_39 rfl ?_
    refine EV.aload_n d_Ta_takeOut_40 rfl ?_
    refine EV.getI fl_Ta_34 d_Ta_takeOut_41 (by first | assumption | rfl) rfl ?_
    refine EV.icmp_geN (tgt := 81) d_Ta_takeOut_44 (by decide) rfl hc2 (by omega) (by omega) (fun h44 => ?_) (fun h44 => ?_)
    · exfalso
      omega
    · refine EV.aload_n d_Ta_takeOut_47 rfl ?_
      refine EV.getR fl_Ta_9 d_Ta_takeOut_48 (by first | assumption | rfl) rfl ?_
      refine EV.iload_n d_Ta_takeOut_51 rfl ?_
      refine EV.iconst (v := nI 1) d_Ta_takeOut_52 (by decide) ?_
      refine EV.isub d_Ta_takeOut_53 ?_
      refine EV.aload_n d_Ta_takeOut_54 rfl ?_
      refine EV.getR fl_Ta_9 d_Ta_takeOut_55 (by first | assumption | rfl) rfl ?_
      refine EV.iload_n d_Ta_takeOut_58 rfl ?_
      refine EV.ialdN d_Ta_takeOut_59 (by first | assumption | rfl) rfl rfl (by omega) (by first | decide | omega) ?_
      refine EV.iastN d_Ta_takeOut_60 (by first | assumption | rfl) rfl (show _ = nI i from nI_pred i) (by omega) (by first | decide | omega) ?_
      refine EV.aload_n d_Ta_takeOut_61 rfl ?_
      refine EV.getR fl_Ta_15 d_Ta_takeOut_62 (by first | assumption | rfl) rfl ?_
      refine EV.iload_n d_Ta_takeOut_65 rfl ?_
      refine EV.iconst (v := nI 1) d_Ta_takeOut_66 (by decide) ?_
      refine EV.isub d_Ta_takeOut_67 ?_
      refine EV.aload_n d_Ta_takeOut_68 rfl ?_
      refine EV.getR fl_Ta_15 d_Ta_takeOut_69 (by first | assumption | rfl) rfl ?_
      refine EV.iload_n d_Ta_takeOut_72 rfl ?_
      refine EV.ialdN d_Ta_takeOut_73 (by first | assumption | rfl) rfl rfl (by omega) (by first | decide | omega) ?_
      refine EV.iastN d_Ta_takeOut_74 (by first | assumption | rfl) rfl (show _ = nI i from nI_pred i) (by omega) (by first | decide | omega) ?_
      refine EV.iincN d_Ta_takeOut_75 rfl (by decide) ?_
      refine EV.goto (tgt := 39) d_Ta_takeOut_78 (by decide) ?_
      refine ih (i + 1 + 1) _ (by omega) (by omega) (by omega) ?_ ?_ ?_
      · rw [mx_w_ne _ _ _ (by omega), mx_w_eq, hf]; exact fx_dl_s _ (by omega)
      · rw [mx_w_eq, mx_w_ne _ _ _ (by omega), hg]; exact fx_dl_s _ (by omega)
      · intro k k1 k2; rw [mx_w_ne _ _ _ k2, mx_w_ne _ _ _ k1]; exact ho k k1 k2
set_option maxHeartbeats 4000000 in
set_option maxRecDepth 100000 in
theorem sp_Ta_takeOut {G : mx_G} {d : Nat} {S : List mx_Sh} {D0 : mx_Mem} {t cnt a : Nat} (hT : ShT S t) (hc : D0 t 5 = nI cnt) (hle : cnt ≤ 30) (ha : a < cnt) : EV G (d + 1) m_Ta_takeOut 0 (mx_lc0 m_Ta_takeOut [.ref t, .int (nI a)]) [] S D0 S (fun rv D' => rv = none ∧ D' (t + 1) = fx_dl (D0 (t + 1)) a cnt ∧ D' (t + 2) = fx_dl (fx_mn (D0 (t + 2)) a cnt) a cnt ∧ D' t = upd (D0 t) 5 (nI (cnt - 1)) ∧ ∀ k, ¬ k = t → ¬ k = t + 1 → ¬ k = t + 2 → D' k = D0 k) := by
  obtain ⟨hs0, hs1, hs2, hs3, hs4, hs5⟩ := id hT
  show EV _ _ _ _ [some (.ref t), some (.int (nI a)), none] [] _ _ _ _
  refine EV.iload_n d_Ta_takeOut_0 rfl ?_
  refine EV.iconst (v := nI 1) d_Ta_takeOut_1 (by decide) ?_
  refine EV.iadd d_Ta_takeOut_2 ?_
  refine EV.aload_n d_Ta_takeOut_3 rfl ?_
  refine EV.getI fl_Ta_34 d_Ta_takeOut_4 (by first | assumption | rfl) rfl ?_
  refine EV.icmp_geN (tgt := 35) d_Ta_takeOut_7 (by decide) (nI_1 a) hc (by omega) (by omega) (fun h7 => ?_) (fun h7 => ?_)
  · have eg : fx_mn (D0 (t + 2)) a cnt = D0 (t + 2) := by unfold fx_mn; rw [if_neg (by omega)]
    rw [eg]
    refine EV.iload_n d_Ta_takeOut_35 rfl ?_
    refine EV.iconst (v := nI 1) d_Ta_takeOut_36 (by decide) ?_
    refine EV.iadd d_Ta_takeOut_37 ?_
    refine EV.top (nI_1 a) ?_
    refine EV.istore_n d_Ta_takeOut_38 (by decide) ?_
    refine EV.post (fun rv D' h => h) (lp_Ta_takeOut hT hc hle (cnt - (a + 1)) (a + 1) _ (by omega) (by omega) rfl ?_ ?_ ?_)
    · simp [mx_w, va_up, fx_dl_0]
    · simp [mx_w, va_up, fx_dl_0]
    · intro k k1 k2; simp [mx_w, va_up, k1, k2]
  · have eg : fx_mn (D0 (t + 2)) a cnt = upd (D0 (t + 2)) (a + 1) (if D0 (t + 2) (a + 1) < D0 (t + 2) a then D0 (t + 2) (a + 1) else D0 (t + 2) a) := by unfold fx_mn; rw [if_pos (by omega)]
    rw [eg]
    refine EV.aload_n d_Ta_takeOut_10 rfl ?_
    refine EV.getR fl_Ta_15 d_Ta_takeOut_11 (by first | assumption | rfl) rfl ?_
    refine EV.iload_n d_Ta_takeOut_14 rfl ?_
    refine EV.iconst (v := nI 1) d_Ta_takeOut_15 (by decide) ?_
    refine EV.iadd d_Ta_takeOut_16 ?_
    refine EV.aload_n d_Ta_takeOut_17 rfl ?_
    refine EV.getR fl_Ta_15 d_Ta_takeOut_18 (by first | assumption | rfl) rfl ?_
    refine EV.iload_n d_Ta_takeOut_21 rfl ?_
    refine EV.ialdN d_Ta_takeOut_22 (by first | assumption | rfl) rfl rfl (by omega) (by first | decide | omega) ?_
    refine EV.aload_n d_Ta_takeOut_23 rfl ?_
    refine EV.getR fl_Ta_15 d_Ta_takeOut_24 (by first | assumption | rfl) rfl ?_
    refine EV.iload_n d_Ta_takeOut_27 rfl ?_
    refine EV.iconst (v := nI 1) d_Ta_takeOut_28 (by decide) ?_
    refine EV.iadd d_Ta_takeOut_29 ?_
    refine EV.ialdN d_Ta_takeOut_30 (by first | assumption | rfl) rfl (nI_1 a) (by omega) (by first | decide | omega) ?_
    refine EV.mmin (mx_in 336 (by decide +kernel) (by decide +kernel)) mx_mm d_Ta_takeOut_31 rfl (Nat.le_of_ble_eq_true rfl) ?_
    refine EV.iastN d_Ta_takeOut_34 (by first | assumption | rfl) rfl (nI_1 a) (by omega) (by first | decide | omega) ?_
    refine EV.iload_n d_Ta_takeOut_35 rfl ?_
    refine EV.iconst (v := nI 1) d_Ta_takeOut_36 (by decide) ?_
    refine EV.iadd d_Ta_takeOut_37 ?_
    refine EV.top (nI_1 a) ?_
    refine EV.istore_n d_Ta_takeOut_38 (by decide) ?_
    refine EV.post (fun rv D' h => h) (lp_Ta_takeOut hT hc hle (cnt - (a + 1)) (a + 1) _ (by omega) (by omega) rfl ?_ ?_ ?_)
    · simp [mx_w, va_up, fx_dl_0]
    · simp [mx_w, va_up, fx_dl_0]
    · intro k k1 k2; simp [mx_w, va_up, k1, k2]
set_option maxHeartbeats 4000000 in
set_option maxRecDepth 100000 in
theorem lp_Ta_putIn {G : mx_G} {d : Nat} {S : List mx_Sh} {D0 : mx_Mem} {t cnt a : Nat} {x y : Int32} (hT : ShT S t) (hc : D0 t 5 = nI cnt) (hle : cnt < 30) : ∀ (n i : Nat), i ≤ cnt → a + 1 ≤ i → cnt - i = n → (∀ j, a + 1 ≤ j → j < i → y < D0 (t + 2) j) → EV G (d + 1) m_Ta_putIn 5 [some (.ref t), some (.int x), some (.int y), some (.int (nI a)), some (.int (nI i))] [] S D0 S (fun rv D' => rv = none ∧ ∃ p, Plc (D0 (t + 2)) y (a + 1) cnt p ∧ D' (t + 1) = fx_ins (D0 (t + 1)) p x cnt ∧ D' (t + 2) = fx_ins (D0 (t + 2)) p y cnt ∧ D' t = upd (D0 t) 5 (nI (cnt + 1)) ∧ ∀ k, ¬ k = t → ¬ k = t + 1 → ¬ k = t + 2 → D' k = D0 k) := by
  obtain ⟨hs0, hs1, hs2, hs3, hs4, hs5⟩ := id hT
  intro n
  induction n with
  | zero =>
    intro i h1 h2 h3 h4
    refine EV.iload d_Ta_putIn_5 rfl ?_
    refine EV.aload_n d_Ta_putIn_7 rfl ?_
    refine EV.getI fl_Ta_34 d_Ta_putIn_8 (by first | assumption | rfl) rfl ?_
    refine EV.icmp_geN (tgt := 31) d_Ta_putIn_11 (by decide) rfl hc (by omega) (by omega) (fun h11 => ?_) (fun h11 => ?_)
    · refine EV.aload_n d_Ta_putIn_31 rfl ?_
      refine EV.iload d_Ta_putIn_32 rfl ?_
      refine EV.iload_n d_Ta_putIn_34 rfl ?_
      refine EV.iload_n d_Ta_putIn_35 rfl ?_
      refine EV.V3 cv_Ta_27 d_Ta_putIn_36 (by first | assumption | rfl) (sp_Ta_insert hT hc hle (by omega)) ⟨Nat.le_refl _, Nat.le_refl _⟩ rfl rfl (Nat.le_of_ble_eq_true rfl) (fun rv D1 hp => ?_)
      obtain ⟨rfl, q1, q2, q3, q4⟩ := hp
      exact EV.return_ d_Ta_putIn_39 rfl ⟨rfl, i, ⟨h2, h1, h4, fun h => absurd h (by omega)⟩, q1, q2, q3, q4⟩
    · exfalso
      omega
  | succ n ih =>
    intro i h1 h2 h3 h4
    refine EV.iload d_Ta_putIn_5 rfl ?_
    refine EV.aload_n d_Ta_putIn_7 rfl ?_
    refine EV.getI fl_Ta_34 d_Ta_putIn_8 (by first | assumption | rfl) rfl ?_
    refine EV.icmp_geN (tgt := 31) d_Ta_putIn_11 (by decide) rfl hc (by omega) (by omega) (fun h11 => ?_) (fun h11 => ?_)
    · exfalso
      omega
    · refine EV.aload_n d_Ta_putIn_14 rfl ?_
      refine EV.getR fl_Ta_15 d_Ta_putIn_15 (by first | assumption | rfl) rfl ?_
      refine EV.iload d_Ta_putIn_18 rfl ?_
      refine EV.ialdN d_Ta_putIn_20 (by first | assumption | rfl) rfl rfl (by omega) (by first | decide | omega) ?_
      refine EV.iload_n d_Ta_putIn_21 rfl ?_
      refine EV.icmp_le (tgt := 31) d_Ta_putIn_22 (by decide) (fun h22 => ?_) (fun h22 => ?_)
      · refine EV.aload_n d_Ta_putIn_31 rfl ?_
        refine EV.iload d_Ta_putIn_32 rfl ?_
        refine EV.iload_n d_Ta_putIn_34 rfl ?_
        refine EV.iload_n d_Ta_putIn_35 rfl ?_
        refine EV.V3 cv_Ta_27 d_Ta_putIn_36 (by first | assumption | rfl) (sp_Ta_insert hT hc hle (by omega)) ⟨Nat.le_refl _, Nat.le_refl _⟩ rfl rfl (Nat.le_of_ble_eq_true rfl) (fun rv D1 hp => ?_)
        obtain ⟨rfl, q1, q2, q3, q4⟩ := hp
        exact EV.return_ d_Ta_putIn_39 rfl ⟨rfl, i, ⟨h2, h1, h4, fun _ h => absurd h (Int32.not_lt.mpr h22)⟩, q1, q2, q3, q4⟩
      · refine EV.iincN d_Ta_putIn_25 rfl (by decide) ?_
        refine EV.goto (tgt := 5) d_Ta_putIn_28 (by decide) ?_
        exact ih (i + 1) (by omega) (by omega) (by omega) (fun j j1 j2 => by
          rcases Nat.lt_or_ge j i with q | q
          · exact h4 j j1 q
          · rw [show j = i by omega]; exact Int32.not_le.mp h22)
set_option maxHeartbeats 4000000 in
set_option maxRecDepth 100000 in
theorem sp_Ta_putIn {G : mx_G} {d : Nat} {S : List mx_Sh} {D0 : mx_Mem} {t cnt a : Nat} {x y : Int32} (hT : ShT S t) (hc : D0 t 5 = nI cnt) (hle : cnt < 30) (ha : a < cnt) : EV G (d + 1) m_Ta_putIn 0 (mx_lc0 m_Ta_putIn [.ref t, .int x, .int y, .int (nI a)]) [] S D0 S (fun rv D' => rv = none ∧ ∃ p, Plc (D0 (t + 2)) y (a + 1) cnt p ∧ D' (t + 1) = fx_ins (D0 (t + 1)) p x cnt ∧ D' (t + 2) = fx_ins (D0 (t + 2)) p y cnt ∧ D' t = upd (D0 t) 5 (nI (cnt + 1)) ∧ ∀ k, ¬ k = t → ¬ k = t + 1 → ¬ k = t + 2 → D' k = D0 k) := by
  show EV _ _ _ _ [some (.ref t), some (.int x), some (.int y), some (.int (nI a)), none] [] _ _ _ _
  refine EV.iload_n d_Ta_putIn_0 rfl ?_
  refine EV.iconst (v := nI 1) d_Ta_putIn_1 (by decide) ?_
  refine EV.iadd d_Ta_putIn_2 ?_
  refine EV.top (nI_1 a) ?_
  refine EV.istore d_Ta_putIn_3 (by decide) ?_
  exact lp_Ta_putIn hT hc hle (cnt - (a + 1)) (a + 1) (by omega) (by omega) rfl (fun j j1 j2 => absurd j1 (by omega))
set_option maxHeartbeats 4000000 in
set_option maxRecDepth 100000 in
theorem lp_Ta_weigh {G : mx_G} {d : Nat} {S : List mx_Sh} {D0 : mx_Mem} {t cnt : Nat} {sf : Nat → Nat} (hT : ShT S t) (hc : D0 t 5 = nI cnt) (hle : cnt ≤ 30) (hsf : ∀ j, j < cnt → D0 (t + 2) j = nI (sf j) ∧ sf j < 2 ^ 31) : ∀ (n i : Nat) (D : mx_Mem), i ≤ cnt → cnt - i = n → (∀ j, j < i → D (t + 3) j = nI (ps_wt sf (j + 1)).1 ∧ D (t + 4) j = nI (ps_wt sf (j + 1)).2.1 ∧ D (t + 5) j = nI (ps_wt sf (j + 1)).2.2) → (∀ k, ¬ k = t + 3 → ¬ k = t + 4 → ¬ k = t + 5 → D k = D0 k) → EV G d m_Ta_weigh 9 [some (.ref t), some (.int (nI (ps_wt sf i).1)), some (.int (nI (ps_wt sf i).2.1)), some (.int (nI (ps_wt sf i).2.2)), some (.int (nI i))] [] S D S (fun rv D' => rv = none ∧ (∀ j, j < cnt → D' (t + 3) j = nI (ps_wt sf (j + 1)).1 ∧ D' (t + 4) j = nI (ps_wt sf (j + 1)).2.1 ∧ D' (t + 5) j = nI (ps_wt sf (j + 1)).2.2) ∧ ∀ k, ¬ k = t + 3 → ¬ k = t + 4 → ¬ k = t + 5 → D' k = D0 k) := by
  obtain ⟨hs0, hs1, hs2, hs3, hs4, hs5⟩ := id hT
  intro n
  induction n with
  | zero =>
    intro i D h1 h2 h3 ho
    have hc2 : D t 5 = nI cnt := by rw [ho t (by omega) (by omega) (by omega)]; exact hc
    refine EV.iload d_Ta_weigh_9 rfl ?_
    refine EV.aload_n d_Ta_weigh_11 rfl ?_
    refine EV.getI fl_Ta_34 d_Ta_weigh_12 (by first | assumption | rfl) rfl ?_
    refine EV.icmp_geN (tgt := 102) d_Ta_weigh_15 (by decide) rfl hc2 (by omega) (by omega) (fun h15 => ?_) (fun h15 => ?_)
    · exact EV.return_ d_Ta_weigh_102 rfl ⟨rfl, fun j hj => h3 j (by omega), ho⟩
    · exfalso
      omega
  | succ n ih =>
    intro i D h1 h2 h3 ho
    have hc2 : D t 5 = nI cnt := by rw [ho t (by omega) (by omega) (by omega)]; exact hc
    have hst : D (t + 2) i = nI (sf i) := by rw [ho (t + 2) (by omega) (by omega) (by omega)]; exact (hsf i (by omega)).1
    have hsl : sf i < 2 ^ 31 := (hsf i (by omega)).2
    have hw : ps_wt sf (i + 1) = ps_ws (ps_wt sf i) (sf i) := rfl
    have J : EV G d m_Ta_weigh 72 [some (.ref t), some (.int (nI (ps_wt sf (i + 1)).1)), some (.int (nI (ps_wt sf (i + 1)).2.1)), some (.int (nI (ps_wt sf (i + 1)).2.2)), some (.int (nI i))] [] S D S (fun rv D' => rv = none ∧ (∀ j, j < cnt → D' (t + 3) j = nI (ps_wt sf (j + 1)).1 ∧ D' (t + 4) j = nI (ps_wt sf (j + 1)).2.1 ∧ D' (t + 5) j = nI (ps_wt sf (j + 1)).2.2) ∧ ∀ k, ¬ k = t + 3 → ¬ k = t + 4 → ¬ k = t + 5 → D' k = D0 k) := by
      refine EV.aload_n d_Ta_weigh_72 rfl ?_
      refine EV.getR fl_Ta_18 d_Ta_weigh_73 (by first | assumption | rfl) rfl ?_
      refine EV.iload d_Ta_weigh_76 rfl ?_
      refine EV.iload_n d_Ta_weigh_78 rfl ?_
      refine EV.iastN d_Ta_weigh_79 (by first | assumption | rfl) rfl rfl (by omega) (by first | decide | omega) ?_
      refine EV.aload_n d_Ta_weigh_80 rfl ?_
      refine EV.getR fl_Ta_21 d_Ta_weigh_81 (by first | assumption | rfl) rfl ?_
      refine EV.iload d_Ta_weigh_84 rfl ?_
      refine EV.iload_n d_Ta_weigh_86 rfl ?_
      refine EV.iastN d_Ta_weigh_87 (by first | assumption | rfl) rfl rfl (by omega) (by first | decide | omega) ?_
      refine EV.aload_n d_Ta_weigh_88 rfl ?_
      refine EV.getR fl_Ta_24 d_Ta_weigh_89 (by first | assumption | rfl) rfl ?_
      refine EV.iload d_Ta_weigh_92 rfl ?_
      refine EV.iload_n d_Ta_weigh_94 rfl ?_
      refine EV.iastN d_Ta_weigh_95 (by first | assumption | rfl) rfl rfl (by omega) (by first | decide | omega) ?_
      refine EV.iincN d_Ta_weigh_96 rfl (by decide) ?_
      refine EV.goto (tgt := 9) d_Ta_weigh_99 (by decide) ?_
      refine ih (i + 1) _ (by omega) (by omega) ?_ ?_
      · intro j hj
        by_cases q : j = i
        · subst q; simp [mx_w, va_up, upd]
        · have q2 := h3 j (by omega)
          simp [mx_w, va_up, upd, q, q2]
      · intro k k1 k2 k3; simp [mx_w, va_up, k1, k2, k3, ho k k1 k2 k3]
    refine EV.iload d_Ta_weigh_9 rfl ?_
    refine EV.aload_n d_Ta_weigh_11 rfl ?_
    refine EV.getI fl_Ta_34 d_Ta_weigh_12 (by first | assumption | rfl) rfl ?_
    refine EV.icmp_geN (tgt := 102) d_Ta_weigh_15 (by decide) rfl hc2 (by omega) (by omega) (fun h15 => ?_) (fun h15 => ?_)
    · exfalso
      omega
    · refine EV.aload_n d_Ta_weigh_18 rfl ?_
      refine EV.getR fl_Ta_15 d_Ta_weigh_19 (by first | assumption | rfl) rfl ?_
      refine EV.iload d_Ta_weigh_22 rfl ?_
      refine EV.ialdN d_Ta_weigh_24 (by first | assumption | rfl) rfl rfl (by omega) (by first | decide | omega) ?_
      refine EV.iconst (v := nI 1) d_Ta_weigh_25 (by decide) ?_
      refine EV.icmp_neN (tgt := 39) d_Ta_weigh_26 (by decide) hst rfl (by omega) (by omega) (fun h26 => ?_) (fun h26 => ?_)
      · refine EV.aload_n d_Ta_weigh_39 rfl ?_
        refine EV.getR fl_Ta_15 d_Ta_weigh_40 (by first | assumption | rfl) rfl ?_
        refine EV.iload d_Ta_weigh_43 rfl ?_
        refine EV.ialdN d_Ta_weigh_45 (by first | assumption | rfl) rfl rfl (by omega) (by first | decide | omega) ?_
        refine EV.iconst (v := nI 2) d_Ta_weigh_46 (by decide) ?_
        refine EV.icmp_neN (tgt := 58) d_Ta_weigh_47 (by decide) hst rfl (by omega) (by omega) (fun h47 => ?_) (fun h47 => ?_)
        · refine EV.aload_n d_Ta_weigh_58 rfl ?_
          refine EV.getR fl_Ta_15 d_Ta_weigh_59 (by first | assumption | rfl) rfl ?_
          refine EV.iload d_Ta_weigh_62 rfl ?_
          refine EV.ialdN d_Ta_weigh_64 (by first | assumption | rfl) rfl rfl (by omega) (by first | decide | omega) ?_
          refine EV.iconst (v := nI 3) d_Ta_weigh_65 (by decide) ?_
          refine EV.icmp_neN (tgt := 72) d_Ta_weigh_66 (by decide) hst rfl (by omega) (by omega) (fun h66 => ?_) (fun h66 => ?_)
          · have e1 := hw
            first | simp [ps_ws, h26, h47, h66] at e1 | simp [ps_ws, h26, h47] at e1 | simp [ps_ws, h26] at e1
            rw [e1] at J
            exact J
          · refine EV.iincN d_Ta_weigh_69 rfl (by decide) ?_
            have e1 := hw
            first | simp [ps_ws, h26, h47, h66] at e1 | simp [ps_ws, h26, h47] at e1 | simp [ps_ws, h26] at e1
            rw [e1] at J
            exact J
        · refine EV.iincN d_Ta_weigh_50 rfl (by decide) ?_
          refine EV.iconst (v := nI 1) d_Ta_weigh_53 (by decide) ?_
          refine EV.istore_n d_Ta_weigh_54 (by decide) ?_
          refine EV.goto (tgt := 72) d_Ta_weigh_55 (by decide) ?_
          have e1 := hw
          first | simp [ps_ws, h26, h47, h66] at e1 | simp [ps_ws, h26, h47] at e1 | simp [ps_ws, h26] at e1
          rw [e1] at J
          exact J
      · refine EV.iincN d_Ta_weigh_29 rfl (by decide) ?_
        refine EV.iconst (v := nI 1) d_Ta_weigh_32 (by decide) ?_
        refine EV.istore_n d_Ta_weigh_33 (by decide) ?_
        refine EV.iconst (v := nI 1) d_Ta_weigh_34 (by decide) ?_
        refine EV.istore_n d_Ta_weigh_35 (by decide) ?_
        refine EV.goto (tgt := 72) d_Ta_weigh_36 (by decide) ?_
        have e1 := hw
        first | simp [ps_ws, h26, h47, h66] at e1 | simp [ps_ws, h26, h47] at e1 | simp [ps_ws, h26] at e1
        rw [e1] at J
        exact J
set_option maxHeartbeats 4000000 in
set_option maxRecDepth 100000 in
theorem sp_Ta_weigh {G : mx_G} {d : Nat} {S : List mx_Sh} {D0 : mx_Mem} {t cnt : Nat} {sf : Nat → Nat} (hT : ShT S t) (hc : D0 t 5 = nI cnt) (hle : cnt ≤ 30) (hsf : ∀ j, j < cnt → D0 (t + 2) j = nI (sf j) ∧ sf j < 2 ^ 31) : EV G d m_Ta_weigh 0 (mx_lc0 m_Ta_weigh [.ref t]) [] S D0 S (fun rv D' => rv = none ∧ (∀ j, j < cnt → D' (t + 3) j = nI (ps_wt sf (j + 1)).1 ∧ D' (t + 4) j = nI (ps_wt sf (j + 1)).2.1 ∧ D' (t + 5) j = nI (ps_wt sf (j + 1)).2.2) ∧ ∀ k, ¬ k = t + 3 → ¬ k = t + 4 → ¬ k = t + 5 → D' k = D0 k) := by
  show EV _ _ _ _ [some (.ref t), none, none, none, none] [] _ _ _ _
  refine EV.iconst (v := nI 0) d_Ta_weigh_0 (by decide) ?_
  refine EV.istore_n d_Ta_weigh_1 (by decide) ?_
  refine EV.iconst (v := nI 1) d_Ta_weigh_2 (by decide) ?_
  refine EV.istore_n d_Ta_weigh_3 (by decide) ?_
  refine EV.iconst (v := nI 1) d_Ta_weigh_4 (by decide) ?_
  refine EV.istore_n d_Ta_weigh_5 (by decide) ?_
  refine EV.iconst (v := nI 0) d_Ta_weigh_6 (by decide) ?_
  refine EV.istore d_Ta_weigh_7 (by decide) ?_
  exact lp_Ta_weigh hT hc hle hsf cnt 0 D0 (by omega) rfl (fun j hj => absurd hj (by omega)) (fun _ _ _ _ => rfl)
set_option maxHeartbeats 4000000 in
set_option maxRecDepth 100000 in
theorem sp_Ta_copyFrom {G : mx_G} {d : Nat} {S : List mx_Sh} {D0 : mx_Mem} {t o cnt : Nat} {sf : Nat → Nat} (hT : ShT S t) (hO : ShT S o) (hto : o + 5 < t ∨ t + 5 < o) (hc : D0 o 5 = nI cnt) (hle : cnt ≤ 30) (hsf : ∀ j, j < cnt → D0 (o + 2) j = nI (sf j) ∧ sf j < 2 ^ 31) : EV G (d + 1) m_Ta_copyFrom 0 (mx_lc0 m_Ta_copyFrom [.ref t, .ref o]) [] S D0 S (fun rv D' => rv = none ∧ D' t = upd (D0 t) 5 (nI cnt) ∧ (∀ j, j < 30 → D' (t + 1) j = D0 (o + 1) j ∧ D' (t + 2) j = D0 (o + 2) j) ∧ (∀ j, j < cnt → D' (t + 3) j = nI (ps_wt sf (j + 1)).1 ∧ D' (t + 4) j = nI (ps_wt sf (j + 1)).2.1 ∧ D' (t + 5) j = nI (ps_wt sf (j + 1)).2.2) ∧ ∀ k, ¬ k = t → ¬ k = t + 1 → ¬ k = t + 2 → ¬ k = t + 3 → ¬ k = t + 4 → ¬ k = t + 5 → D' k = D0 k) := by
  obtain ⟨hs0, hs1, hs2, hs3, hs4, hs5⟩ := id hT
  obtain ⟨ho0, ho1, ho2, ho3, ho4, ho5⟩ := id hO
  show EV _ _ _ _ [some (.ref t), some (.ref o)] [] _ _ _ _
  refine EV.aload_n d_Ta_copyFrom_0 rfl ?_
  refine EV.aload_n d_Ta_copyFrom_1 rfl ?_
  refine EV.getI fl_Ta_34 d_Ta_copyFrom_2 (by first | assumption | rfl) rfl ?_
  refine EV.top hc ?_
  refine EV.putI fl_Ta_34 d_Ta_copyFrom_5 (by first | assumption | rfl) rfl rfl rfl ?_
  refine EV.aload_n d_Ta_copyFrom_8 rfl ?_
  refine EV.getR fl_Ta_9 d_Ta_copyFrom_9 (by first | assumption | rfl) rfl ?_
  refine EV.iconst (v := nI 0) d_Ta_copyFrom_12 (by decide) ?_
  refine EV.aload_n d_Ta_copyFrom_13 rfl ?_
  refine EV.getR fl_Ta_9 d_Ta_copyFrom_14 (by first | assumption | rfl) rfl ?_
  refine EV.iconst (v := nI 0) d_Ta_copyFrom_17 (by decide) ?_
  refine EV.bipush (v := nI 30) d_Ta_copyFrom_18 (by decide) ?_
  refine EV.acopy (mx_in 317 (by decide +kernel) (by decide +kernel)) mx_ac d_Ta_copyFrom_20 (by first | assumption | rfl) (by first | assumption | rfl) rfl (by decide) (by decide) (by decide) (by decide) (by decide) rfl (Nat.le_of_ble_eq_true rfl) ?_
  refine EV.aload_n d_Ta_copyFrom_23 rfl ?_
  refine EV.getR fl_Ta_15 d_Ta_copyFrom_24 (by first | assumption | rfl) rfl ?_
  refine EV.iconst (v := nI 0) d_Ta_copyFrom_27 (by decide) ?_
  refine EV.aload_n d_Ta_copyFrom_28 rfl ?_
  refine EV.getR fl_Ta_15 d_Ta_copyFrom_29 (by first | assumption | rfl) rfl ?_
  refine EV.iconst (v := nI 0) d_Ta_copyFrom_32 (by decide) ?_
  refine EV.bipush (v := nI 30) d_Ta_copyFrom_33 (by decide) ?_
  refine EV.acopy (mx_in 317 (by decide +kernel) (by decide +kernel)) mx_ac d_Ta_copyFrom_35 (by first | assumption | rfl) (by first | assumption | rfl) rfl (by decide) (by decide) (by decide) (by decide) (by decide) rfl (Nat.le_of_ble_eq_true rfl) ?_
  refine EV.aload_n d_Ta_copyFrom_38 rfl ?_
  refine EV.V0 cv_Ta_31 d_Ta_copyFrom_39 (by first | assumption | rfl) (sp_Ta_weigh (cnt := cnt) (sf := sf) hT (by simp [va_up, mx_w, upd]) hle (fun j hj => ⟨by simp [va_up, mx_w, show ¬ o + 2 = t by omega, show ¬ o + 2 = t + 1 by omega, show ¬ t + 2 = o + 1 by omega, show ¬ t + 2 = t by omega, show ¬ o + 2 = t + 2 by omega]; rw [pk_cpy_in (by rw [nI0_c]; exact Nat.zero_le _) (by rw [nI0_c, nI30_c]; omega)]; simpa [nI0_c] using (hsf j hj).1, (hsf j hj).2⟩)) ⟨Nat.le_refl _, Nat.le_refl _⟩ rfl rfl (Nat.le_of_ble_eq_true rfl) (fun rv D1 hp => ?_)
  obtain ⟨rfl, q1, q2⟩ := hp
  have nt : ∀ a b, a ≤ 5 → b ≤ 5 → ¬ t + a = o + b := fun a b ha hb => by omega
  exact EV.return_ d_Ta_copyFrom_42 rfl ⟨rfl, by rw [q2 t (by omega) (by omega) (by omega)]; simp [va_up, mx_w], fun j hj => ⟨by rw [q2 (t + 1) (by omega) (by omega) (by omega)]; simp [va_up, mx_w, show ¬ o + 1 = t by omega]; rw [pk_cpy_in (by rw [nI0_c]; exact Nat.zero_le _) (by rw [nI0_c, nI30_c]; omega)]; simp [nI0_c], by rw [q2 (t + 2) (by omega) (by omega) (by omega)]; simp [va_up, mx_w, show ¬ o + 2 = t by omega, show ¬ o + 2 = t + 1 by omega]; rw [pk_cpy_in (by rw [nI0_c]; exact Nat.zero_le _) (by rw [nI0_c, nI30_c]; omega)]; simp [nI0_c]⟩, q1, fun k k0 k1 k2 k3 k4 k5 => by rw [q2 k k3 k4 k5]; simp [va_up, mx_w, k0, k1, k2]⟩
/-- entry j's string begins the head -/
def HdM (e : Nat → Nat) (h j : Nat) : Prop := h % 256 ^ ps_len (e j) = e j
def Lng (e : Nat → Nat) (h n b bl : Nat) : Prop := (b = 0 ∧ bl = 0 ∧ ∀ j, j < n → ¬ HdM e h j) ∨ (b < n ∧ HdM e h b ∧ bl = ps_len (e b) ∧ ∀ j, j < n → HdM e h j → ps_len (e j) ≤ bl)
theorem ps_len_or (s : Nat) : ps_len s = 1 ∨ ps_len s = 2 ∨ ps_len s = 3 := by unfold ps_len; split; simp; split <;> simp
set_option maxHeartbeats 4000000 in
set_option maxRecDepth 100000 in
theorem lp_Ta_findLongest {G : mx_G} {d : Nat} {S : List mx_Sh} {D : mx_Mem} {t cnt h : Nat} {e : Nat → Nat} (hT : ShT S t) (hc : D t 5 = nI cnt) (hle : cnt ≤ 30) (hh : h < 2 ^ 31) (he : ∀ j, j < cnt → D (t + 1) j = nI (e j) ∧ e j < 2 ^ 31) : ∀ (n i b bl : Nat), i ≤ cnt → cnt - i = n → Lng e h i b bl → b < 2 ^ 30 → bl < 4 → EV G (d + 1) m_Ta_findLongest 7 [some (.ref t), some (.int (nI h)), some (.int (nI b)), some (.int (nI bl)), some (.int (nI i)), none] [] S D S (fun rv D' => D' = D ∧ ∃ b bl, rv = some (.int (nI b)) ∧ Lng e h cnt b bl) := by
  obtain ⟨hs0, hs1, hs2, hs3, hs4, hs5⟩ := id hT
  intro n
  induction n with
  | zero =>
    intro i b bl h1 h2 h3 hb hbl
    refine EV.iload d_Ta_findLongest_7 rfl ?_
    refine EV.aload_n d_Ta_findLongest_9 rfl ?_
    refine EV.getI fl_Ta_34 d_Ta_findLongest_10 (by first | assumption | rfl) rfl ?_
    refine EV.icmp_geN (tgt := 62) d_Ta_findLongest_13 (by decide) rfl hc (by omega) (by omega) (fun h13 => ?_) (fun h13 => ?_)
    · refine EV.iload_n d_Ta_findLongest_62 rfl ?_
      exact EV.ireturn d_Ta_findLongest_63 ⟨_, rfl, rfl⟩ ⟨rfl, b, bl, rfl, by rw [show cnt = i by omega]; exact h3⟩
    · exfalso
      omega
  | succ n ih =>
    intro i b bl h1 h2 h3 hb hbl
    have hei : D (t + 1) i = nI (e i) ∧ e i < 2 ^ 31 := he i (by omega)
    have hlen := ps_len_or (e i)
    refine EV.iload d_Ta_findLongest_7 rfl ?_
    refine EV.aload_n d_Ta_findLongest_9 rfl ?_
    refine EV.getI fl_Ta_34 d_Ta_findLongest_10 (by first | assumption | rfl) rfl ?_
    refine EV.icmp_geN (tgt := 62) d_Ta_findLongest_13 (by decide) rfl hc (by omega) (by omega) (fun h13 => ?_) (fun h13 => ?_)
    · exfalso
      omega
    · refine EV.aload_n d_Ta_findLongest_16 rfl ?_
      refine EV.getR fl_Ta_9 d_Ta_findLongest_17 (by first | assumption | rfl) rfl ?_
      refine EV.iload d_Ta_findLongest_20 rfl ?_
      refine EV.ialdN d_Ta_findLongest_22 (by first | assumption | rfl) rfl rfl (by omega) (by first | decide | omega) ?_
      refine EV.top hei.1 ?_
      refine EV.T1 cs_Ta_44 d_Ta_findLongest_23 (sp_To_lengthOf hei.2) ⟨Nat.le_refl _, Nat.le_refl _⟩ rfl rfl (Nat.le_of_ble_eq_true rfl) (fun rv D1 hp => ?_)
      obtain ⟨rfl, hD⟩ := hp
      obtain rfl := hD.symm
      refine EV.istore d_Ta_findLongest_26 (by decide) ?_
      refine EV.iload d_Ta_findLongest_28 rfl ?_
      refine EV.iload_n d_Ta_findLongest_30 rfl ?_
      refine EV.icmp_leN (tgt := 56) d_Ta_findLongest_31 (by decide) rfl rfl (by omega) (by omega) (fun h31 => ?_) (fun h31 => ?_)
      · refine EV.iincN d_Ta_findLongest_56 rfl (by decide) ?_
        refine EV.goto (tgt := 7) d_Ta_findLongest_59 (by decide) ?_
        refine EV.wk (lc2 := [some (.ref t), some (.int (nI h)), some (.int (nI b)), some (.int (nI bl)), some (.int (nI (i + 1))), none]) (fun k v hk => by
          match k with
          | 0 | 1 | 2 | 3 | 4 => exact hk
          | 5 => simp at hk
          | k + 6 => simp at hk) ?_
        exact ih (i + 1) b bl (by omega) (by omega) (by
          rcases h3 with ⟨a1, a2, a3⟩ | ⟨a1, a2, a3, a4⟩
          · exact Or.inl ⟨a1, a2, fun j hj q => by
              rcases Nat.lt_or_ge j i with z | z
              · exact a3 j z q
              · have ej : j = i := by omega
                subst ej
                first | omega | exact h47 q⟩
          · exact Or.inr ⟨by omega, a2, a3, fun j hj q => by
              rcases Nat.lt_or_ge j i with z | z
              · exact a4 j z q
              · have ej : j = i := by omega
                subst ej
                first | omega | exact absurd q h47⟩) (by omega) (by omega)
      · refine EV.iload_n d_Ta_findLongest_34 rfl ?_
        refine EV.iload d_Ta_findLongest_35 rfl ?_
        refine EV.T2 cs_Ta_48 d_Ta_findLongest_37 (sp_To_firstOf hlen hh) ⟨Nat.le_refl _, Nat.le_refl _⟩ rfl rfl (Nat.le_of_ble_eq_true rfl) (fun rv D1 hp => ?_)
        obtain ⟨rfl, hD⟩ := hp
        obtain rfl := hD.symm
        refine EV.aload_n d_Ta_findLongest_40 rfl ?_
        refine EV.getR fl_Ta_9 d_Ta_findLongest_41 (by first | assumption | rfl) rfl ?_
        refine EV.iload d_Ta_findLongest_44 rfl ?_
        refine EV.ialdN d_Ta_findLongest_46 (by first | assumption | rfl) rfl rfl (by omega) (by first | decide | omega) ?_
        refine EV.icmp_neN (tgt := 56) d_Ta_findLongest_47 (by decide) rfl hei.1 (Nat.lt_of_le_of_lt (Nat.mod_le _ _) hh) (by omega) (fun h47 => ?_) (fun h47 => ?_)
        · refine EV.iincN d_Ta_findLongest_56 rfl (by decide) ?_
          refine EV.goto (tgt := 7) d_Ta_findLongest_59 (by decide) ?_
          refine EV.wk (lc2 := [some (.ref t), some (.int (nI h)), some (.int (nI b)), some (.int (nI bl)), some (.int (nI (i + 1))), none]) (fun k v hk => by
            match k with
            | 0 | 1 | 2 | 3 | 4 => exact hk
            | 5 => simp at hk
            | k + 6 => simp at hk) ?_
          exact ih (i + 1) b bl (by omega) (by omega) (by
            rcases h3 with ⟨a1, a2, a3⟩ | ⟨a1, a2, a3, a4⟩
            · exact Or.inl ⟨a1, a2, fun j hj q => by
                rcases Nat.lt_or_ge j i with z | z
                · exact a3 j z q
                · have ej : j = i := by omega
                  subst ej
                  first | omega | exact h47 q⟩
            · exact Or.inr ⟨by omega, a2, a3, fun j hj q => by
                rcases Nat.lt_or_ge j i with z | z
                · exact a4 j z q
                · have ej : j = i := by omega
                  subst ej
                  first | omega | exact absurd q h47⟩) (by omega) (by omega)
        · refine EV.iload d_Ta_findLongest_50 rfl ?_
          refine EV.istore_n d_Ta_findLongest_52 (by decide) ?_
          refine EV.iload d_Ta_findLongest_53 rfl ?_
          refine EV.istore_n d_Ta_findLongest_55 (by decide) ?_
          refine EV.iincN d_Ta_findLongest_56 rfl (by decide) ?_
          refine EV.goto (tgt := 7) d_Ta_findLongest_59 (by decide) ?_
          refine EV.wk (lc2 := [some (.ref t), some (.int (nI h)), some (.int (nI i)), some (.int (nI (ps_len (e i)))), some (.int (nI (i + 1))), none]) (fun k v hk => by
            match k with
            | 0 | 1 | 2 | 3 | 4 => exact hk
            | 5 => simp at hk
            | k + 6 => simp at hk) ?_
          exact ih (i + 1) i (ps_len (e i)) (by omega) (by omega) (by
            refine Or.inr ⟨by omega, h47, rfl, fun j hj q => ?_⟩
            rcases Nat.lt_or_ge j i with z | z
            · rcases h3 with ⟨a1, a2, a3⟩ | ⟨a1, a2, a3, a4⟩
              · exact absurd q (a3 j z)
              · have := a4 j z q
                omega
            · rw [show j = i by omega]
              exact Nat.le_refl _) (by omega) (by omega)
set_option maxHeartbeats 4000000 in
set_option maxRecDepth 100000 in
theorem sp_Ta_findLongest {G : mx_G} {d : Nat} {S : List mx_Sh} {D : mx_Mem} {t cnt h : Nat} {e : Nat → Nat} (hT : ShT S t) (hc : D t 5 = nI cnt) (hle : cnt ≤ 30) (hh : h < 2 ^ 31) (he : ∀ j, j < cnt → D (t + 1) j = nI (e j) ∧ e j < 2 ^ 31) : EV G (d + 1) m_Ta_findLongest 0 (mx_lc0 m_Ta_findLongest [.ref t, .int (nI h)]) [] S D S (fun rv D' => D' = D ∧ ∃ b bl, rv = some (.int (nI b)) ∧ Lng e h cnt b bl) := by
  show EV _ _ _ _ [some (.ref t), some (.int (nI h)), none, none, none, none] [] _ _ _ _
  refine EV.iconst (v := nI 0) d_Ta_findLongest_0 (by decide) ?_
  refine EV.istore_n d_Ta_findLongest_1 (by decide) ?_
  refine EV.iconst (v := nI 0) d_Ta_findLongest_2 (by decide) ?_
  refine EV.istore_n d_Ta_findLongest_3 (by decide) ?_
  refine EV.iconst (v := nI 0) d_Ta_findLongest_4 (by decide) ?_
  refine EV.istore d_Ta_findLongest_5 (by decide) ?_
  exact lp_Ta_findLongest hT hc hle hh he cnt 0 0 0 (by omega) rfl (Or.inl ⟨rfl, rfl, fun j hj => absurd hj (by omega)⟩) (by omega) (by omega)
