def sh93 : List mx_Sh := sh80 ++ [.inl (7, [none, some (some 81), some (some 82), none, some (some 83), some (some 84), some (some 85), none, some (some 86), some (some 87), some (some 88), none, none, none, none, none, some (some 89), none, some (some 90), none, none, some (some 91), some (some 92)]), .inr (.inl (0, 30)), .inr (.inl (0, 30)), .inr (.inl (0, 30)), .inr (.inl (0, 30)), .inr (.inl (0, 24)), .inr (.inl (0, 144)), .inr (.inl (0, 12)), .inr (.inl (0, 12)), .inr (.inl (0, 12)), .inr (.inl (0, 48)), .inr (.inl (0, 768)), .inr (.inl (0, 12))]
theorem SH93 : SH sh93 := by
  refine ⟨rfl, rfl, rfl, ⟨⟨rfl, rfl⟩, ⟨rfl, rfl⟩, ⟨rfl, rfl⟩⟩, ⟨⟨rfl, rfl⟩, ⟨rfl, rfl⟩⟩, ⟨⟨rfl, rfl, rfl, rfl, rfl, rfl⟩, ⟨rfl, rfl, rfl, rfl, rfl, rfl⟩⟩, ⟨rfl, rfl, rfl⟩, ⟨rfl, rfl, rfl, rfl, rfl, rfl, rfl, rfl⟩, ⟨rfl, rfl, rfl, rfl, fun i hi => ?_⟩⟩
  rcases (show i = 0 ∨ i = 1 ∨ i = 2 ∨ i = 3 ∨ i = 4 ∨ i = 5 ∨ i = 6 ∨ i = 7 ∨ i = 8 ∨ i = 9 by omega) with rfl | rfl | rfl | rfl | rfl | rfl | rfl | rfl | rfl | rfl <;> exact ⟨⟨rfl, rfl⟩, ⟨rfl, rfl⟩⟩
theorem SM93 : SM sh93 := ⟨rfl, rfl, rfl, rfl, rfl, rfl, rfl, rfl, rfl, rfl, rfl, rfl, rfl⟩
set_option maxHeartbeats 4000000 in
set_option maxRecDepth 100000 in
theorem lp_Mo_init {G : mx_G} {d : Nat} {D0 : mx_Mem} : ∀ (m k : Nat) (D : mx_Mem), k ≤ 8 → 8 - k = m → (∀ q, q < 80 → D q = D0 q) → (∀ j, ¬ j = 13 → D 80 j = 0) → D 80 13 = nI 3 → D 87 = (fun _ => 0) → TBf 128 (D 81) (D 82) (tb_k k) → EV G d m_Mo_init 139 [some (.ref 80), some (.int (nI k))] [] sh93 D sh93 (fun rv D' => rv = none ∧ (∀ q, q < 80 → D' q = D0 q) ∧ MI D' σ0) := by
  have hS := SM93
  obtain ⟨hm0, hm1, hm2, hm3, hm4, hm5, hm6, hm7, hm8, hm9, hm10, hm11, hm12⟩ := id hS
  intro m
  induction m with
  | zero =>
    intro k D h1 h2 ho h8 h13 h87 hB
    have ek : k = 8 := by omega
    subst ek
    refine EV.iload_n d_Mo_init_139 rfl ?_
    refine EV.bipush (v := nI 8) d_Mo_init_140 (by decide) ?_
    refine EV.icmp_geN (tgt := 201) d_Mo_init_142 (by decide) rfl rfl (by omega) (by omega) (fun _ => ?_) (fun h => absurd h (by omega))
    refine EV.aload_n d_Mo_init_201 rfl ?_
    refine EV.bipush (v := nI 18) d_Mo_init_202 (by decide) ?_
    refine EV.putI fl_Mo_50 d_Mo_init_204 (by first | assumption | rfl) rfl rfl rfl ?_
    exact EV.return_ d_Mo_init_207 rfl ⟨rfl, fun q hq => by rw [mx_w_ne _ _ _ (by omega)]; exact ho q hq, ⟨⟨by rw [mx_w_ne _ _ _ (by omega), h87]; rfl, fun i c hc => by simp [σ0] at hc⟩, ⟨by rw [mx_w_ne _ _ _ (by omega), h87]; rfl, fun i c hc => by simp [σ0] at hc⟩⟩, ⟨by rw [mx_w_eq]; simp only [upd]; rw [if_neg (by decide), h8 7 (by decide)]; rfl, ar_nil _⟩, ⟨by rw [mx_w_eq]; simp [upd]; rfl, by rw [mx_w_ne _ _ _ (by omega), mx_w_ne _ _ _ (by omega)]; exact hB⟩, ⟨by rw [mx_w_eq]; simp only [upd]; rw [if_neg (by decide)]; exact h13, by rw [mx_w_eq]; simp only [upd]; rw [if_neg (by decide), h8 14 (by decide)]; rfl, by rw [mx_w_eq]; simp only [upd]; rw [if_neg (by decide), h8 15 (by decide)]; rfl⟩, ⟨by rw [mx_w_eq]; simp only [upd]; rw [if_neg (by decide), h8 11 (by decide)]; rfl, fun i e he => by simp [σ0] at he⟩, by rw [mx_w_eq]; simp only [upd]; rw [if_neg (by decide), h8 12 (by decide)]; rfl⟩
  | succ m ih =>
    intro k D h1 h2 ho h8 h13 h87 hB
    have hl := tb_k_len k
    refine EV.iload_n d_Mo_init_139 rfl ?_
    refine EV.bipush (v := nI 8) d_Mo_init_140 (by decide) ?_
    refine EV.icmp_geN (tgt := 201) d_Mo_init_142 (by decide) rfl rfl (by omega) (by omega) (fun h => absurd h (by omega)) (fun _ => ?_)
    refine EV.aload_n d_Mo_init_145 rfl ?_
    refine EV.getR fl_Mo_7 d_Mo_init_146 (by first | assumption | rfl) rfl ?_
    refine EV.iconst (v := nI 2) d_Mo_init_149 (by decide) ?_
    refine EV.iconst (v := nI 2) d_Mo_init_150 (by decide) ?_
    refine EV.iload_n d_Mo_init_151 rfl ?_
    refine EV.imul d_Mo_init_152 ?_
    refine EV.iadd d_Mo_init_153 ?_
    refine EV.bipush (v := nI 97) d_Mo_init_154 (by decide) ?_
    refine EV.iload_n d_Mo_init_156 rfl ?_
    refine EV.iadd d_Mo_init_157 ?_
    refine EV.top (nI_add _ _) ?_
    refine EV.iastN d_Mo_init_158 (by first | assumption | rfl) rfl (show _ = nI (2 + 2 * k) from by rw [pk_mul, nI_add]) (by omega) (by first | decide | omega) ?_
    refine EV.aload_n d_Mo_init_159 rfl ?_
    refine EV.getR fl_Mo_7 d_Mo_init_160 (by first | assumption | rfl) rfl ?_
    refine EV.iconst (v := nI 3) d_Mo_init_163 (by decide) ?_
    refine EV.iconst (v := nI 2) d_Mo_init_164 (by decide) ?_
    refine EV.iload_n d_Mo_init_165 rfl ?_
    refine EV.imul d_Mo_init_166 ?_
    refine EV.iadd d_Mo_init_167 ?_
    refine EV.bipush (v := nI 65) d_Mo_init_168 (by decide) ?_
    refine EV.iload_n d_Mo_init_170 rfl ?_
    refine EV.iadd d_Mo_init_171 ?_
    refine EV.top (nI_add _ _) ?_
    refine EV.iastN d_Mo_init_172 (by first | assumption | rfl) rfl (show _ = nI (3 + 2 * k) from by rw [pk_mul, nI_add]) (by omega) (by first | decide | omega) ?_
    refine EV.aload_n d_Mo_init_173 rfl ?_
    refine EV.getR fl_Mo_13 d_Mo_init_174 (by first | assumption | rfl) rfl ?_
    refine EV.iconst (v := nI 2) d_Mo_init_177 (by decide) ?_
    refine EV.iconst (v := nI 2) d_Mo_init_178 (by decide) ?_
    refine EV.iload_n d_Mo_init_179 rfl ?_
    refine EV.imul d_Mo_init_180 ?_
    refine EV.iadd d_Mo_init_181 ?_
    refine EV.iconst (v := nI 1) d_Mo_init_182 (by decide) ?_
    refine EV.iastN d_Mo_init_183 (by first | assumption | rfl) rfl (show _ = nI (2 + 2 * k) from by rw [pk_mul, nI_add]) (by omega) (by first | decide | omega) ?_
    refine EV.aload_n d_Mo_init_184 rfl ?_
    refine EV.getR fl_Mo_13 d_Mo_init_185 (by first | assumption | rfl) rfl ?_
    refine EV.iconst (v := nI 3) d_Mo_init_188 (by decide) ?_
    refine EV.iconst (v := nI 2) d_Mo_init_189 (by decide) ?_
    refine EV.iload_n d_Mo_init_190 rfl ?_
    refine EV.imul d_Mo_init_191 ?_
    refine EV.iadd d_Mo_init_192 ?_
    refine EV.iconst (v := nI 3) d_Mo_init_193 (by decide) ?_
    refine EV.iastN d_Mo_init_194 (by first | assumption | rfl) rfl (show _ = nI (3 + 2 * k) from by rw [pk_mul, nI_add]) (by omega) (by first | decide | omega) ?_
    refine EV.iincN d_Mo_init_195 rfl (by decide) ?_
    refine EV.goto (tgt := 139) d_Mo_init_198 (by decide) ?_
    have e : tb_k (k + 1) = (tb_k k ++ [([97 + k], 1)]) ++ [([65 + k], 3)] := by rw [tb_k, List.append_assoc]; rfl
    have b1 := TBf_sn (s := [97 + k]) (y := 1) hB
    have b2 := TBf_sn (s := [65 + k]) (y := 3) b1
    have el : List.length (tb_k k ++ [([97 + k], 1)]) = 3 + 2 * k := by rw [List.length_append, hl]; simp; omega
    rw [← e, ps_enc1, ps_enc1, el, hl] at b2
    refine ih (k + 1) _ (by omega) (by omega) (fun q hq => ?_) (fun j hj => ?_) ?_ ?_ ?_
    · rw [mx_w_ne _ _ _ (by omega), mx_w_ne _ _ _ (by omega), mx_w_ne _ _ _ (by omega), mx_w_ne _ _ _ (by omega)]
      exact ho q hq
    · rw [mx_w_ne _ _ _ (by omega), mx_w_ne _ _ _ (by omega), mx_w_ne _ _ _ (by omega), mx_w_ne _ _ _ (by omega)]
      exact h8 j hj
    · rw [mx_w_ne _ _ _ (by omega), mx_w_ne _ _ _ (by omega), mx_w_ne _ _ _ (by omega), mx_w_ne _ _ _ (by omega)]
      exact h13
    · rw [mx_w_ne _ _ _ (by omega), mx_w_ne _ _ _ (by omega), mx_w_ne _ _ _ (by omega), mx_w_ne _ _ _ (by omega)]
      exact h87
    · rw [mx_w_ne (k' := 81) _ _ _ (by omega), mx_w_ne (k' := 81) _ _ _ (by omega), mx_w_eq, mx_w_eq, mx_w_eq, mx_w_eq, mx_w_ne (k' := 82) _ _ _ (by omega), mx_w_ne (k' := 82) _ _ _ (by omega)]
      exact b2
set_option maxHeartbeats 4000000 in
set_option maxRecDepth 100000 in
theorem in_Mo {G : mx_G} {d : Nat} {D0 : mx_Mem} (h0 : ∀ j, D0 80 j = 0) : EV G (d + 1) m_Mo_init 0 (mx_lc0 m_Mo_init [.ref 80]) [] (sh80 ++ [.inl (7, [none, some none, some none, none, some none, some none, some none, none, some none, some none, some none, none, none, none, none, none, some none, none, some none, none, none, some none, some none])]) D0 sh93 (fun rv D' => rv = none ∧ (∀ q, q < 80 → D' q = D0 q) ∧ MI D' σ0) := by
  show EV _ _ _ _ [some (.ref 80), none] [] _ _ _ _
  refine EV.aload_n d_Mo_init_0 rfl ?_
  refine EV.oinit (mx_in 514 (by decide +kernel) (by decide +kernel)) mx_oi d_Mo_init_1 rfl (Nat.le_of_ble_eq_true rfl) ?_
  refine EV.aload_n d_Mo_init_4 rfl ?_
  refine EV.bipush (v := nI 30) d_Mo_init_5 (by decide) ?_
  refine EV.newaL (a := 81) (S2 := (sh80 ++ [.inl (7, [none, some none, some none, none, some none, some none, some none, none, some none, some none, some none, none, none, none, none, none, some none, none, some none, none, none, some none, some none]), .inr (.inl (0, 30))])) (t := 0) (N := 30) (ty := .int) (by decide +kernel) (by decide +kernel) rfl rfl (mx_in 96 (by decide +kernel) (by decide +kernel)) rfl (by decide) (by decide) (by decide) d_Mo_init_7 ?_
  refine EV.putR ff_Mo_7 rfl d_Mo_init_9 rfl rfl (fun _ => rfl) (fun _ => rfl) ?_
  refine EV.shp (S2 := (sh80 ++ [.inl (7, [none, some (some 81), some none, none, some none, some none, some none, none, some none, some none, some none, none, none, none, none, none, some none, none, some none, none, none, some none, some none]), .inr (.inl (0, 30))])) (by decide +kernel) ?_
  refine EV.aload_n d_Mo_init_12 rfl ?_
  refine EV.bipush (v := nI 30) d_Mo_init_13 (by decide) ?_
  refine EV.newaL (a := 82) (S2 := (sh80 ++ [.inl (7, [none, some (some 81), some none, none, some none, some none, some none, none, some none, some none, some none, none, none, none, none, none, some none, none, some none, none, none, some none, some none]), .inr (.inl (0, 30)), .inr (.inl (0, 30))])) (t := 0) (N := 30) (ty := .int) (by decide +kernel) (by decide +kernel) rfl rfl (mx_in 96 (by decide +kernel) (by decide +kernel)) rfl (by decide) (by decide) (by decide) d_Mo_init_15 ?_
  refine EV.putR ff_Mo_13 rfl d_Mo_init_17 rfl rfl (fun _ => rfl) (fun _ => rfl) ?_
  refine EV.shp (S2 := (sh80 ++ [.inl (7, [none, some (some 81), some (some 82), none, some none, some none, some none, none, some none, some none, some none, none, none, none, none, none, some none, none, some none, none, none, some none, some none]), .inr (.inl (0, 30)), .inr (.inl (0, 30))])) (by decide +kernel) ?_
  refine EV.aload_n d_Mo_init_20 rfl ?_
  refine EV.bipush (v := nI 30) d_Mo_init_21 (by decide) ?_
  refine EV.newaL (a := 83) (S2 := (sh80 ++ [.inl (7, [none, some (some 81), some (some 82), none, some none, some none, some none, none, some none, some none, some none, none, none, none, none, none, some none, none, some none, none, none, some none, some none]), .inr (.inl (0, 30)), .inr (.inl (0, 30)), .inr (.inl (0, 30))])) (t := 0) (N := 30) (ty := .int) (by decide +kernel) (by decide +kernel) rfl rfl (mx_in 96 (by decide +kernel) (by decide +kernel)) rfl (by decide) (by decide) (by decide) d_Mo_init_23 ?_
  refine EV.putR ff_Mo_16 rfl d_Mo_init_25 rfl rfl (fun _ => rfl) (fun _ => rfl) ?_
  refine EV.shp (S2 := (sh80 ++ [.inl (7, [none, some (some 81), some (some 82), none, some (some 83), some none, some none, none, some none, some none, some none, none, none, none, none, none, some none, none, some none, none, none, some none, some none]), .inr (.inl (0, 30)), .inr (.inl (0, 30)), .inr (.inl (0, 30))])) (by decide +kernel) ?_
  refine EV.aload_n d_Mo_init_28 rfl ?_
  refine EV.bipush (v := nI 30) d_Mo_init_29 (by decide) ?_
  refine EV.newaL (a := 84) (S2 := (sh80 ++ [.inl (7, [none, some (some 81), some (some 82), none, some (some 83), some none, some none, none, some none, some none, some none, none, none, none, none, none, some none, none, some none, none, none, some none, some none]), .inr (.inl (0, 30)), .inr (.inl (0, 30)), .inr (.inl (0, 30)), .inr (.inl (0, 30))])) (t := 0) (N := 30) (ty := .int) (by decide +kernel) (by decide +kernel) rfl rfl (mx_in 96 (by decide +kernel) (by decide +kernel)) rfl (by decide) (by decide) (by decide) d_Mo_init_31 ?_
  refine EV.putR ff_Mo_19 rfl d_Mo_init_33 rfl rfl (fun _ => rfl) (fun _ => rfl) ?_
  refine EV.shp (S2 := (sh80 ++ [.inl (7, [none, some (some 81), some (some 82), none, some (some 83), some (some 84), some none, none, some none, some none, some none, none, none, none, none, none, some none, none, some none, none, none, some none, some none]), .inr (.inl (0, 30)), .inr (.inl (0, 30)), .inr (.inl (0, 30)), .inr (.inl (0, 30))])) (by decide +kernel) ?_
  refine EV.aload_n d_Mo_init_36 rfl ?_
  refine EV.bipush (v := nI 24) d_Mo_init_37 (by decide) ?_
  refine EV.newaL (a := 85) (S2 := (sh80 ++ [.inl (7, [none, some (some 81), some (some 82), none, some (some 83), some (some 84), some none, none, some none, some none, some none, none, none, none, none, none, some none, none, some none, none, none, some none, some none]), .inr (.inl (0, 30)), .inr (.inl (0, 30)), .inr (.inl (0, 30)), .inr (.inl (0, 30)), .inr (.inl (0, 24))])) (t := 0) (N := 24) (ty := .int) (by decide +kernel) (by decide +kernel) rfl rfl (mx_in 96 (by decide +kernel) (by decide +kernel)) rfl (by decide) (by decide) (by decide) d_Mo_init_39 ?_
  refine EV.putR ff_Mo_22 rfl d_Mo_init_41 rfl rfl (fun _ => rfl) (fun _ => rfl) ?_
  refine EV.shp (S2 := (sh80 ++ [.inl (7, [none, some (some 81), some (some 82), none, some (some 83), some (some 84), some (some 85), none, some none, some none, some none, none, none, none, none, none, some none, none, some none, none, none, some none, some none]), .inr (.inl (0, 30)), .inr (.inl (0, 30)), .inr (.inl (0, 30)), .inr (.inl (0, 30)), .inr (.inl (0, 24))])) (by decide +kernel) ?_
  refine EV.aload_n d_Mo_init_44 rfl ?_
  refine EV.sipush (v := nI 144) d_Mo_init_45 (by decide) ?_
  refine EV.newaL (a := 86) (S2 := (sh80 ++ [.inl (7, [none, some (some 81), some (some 82), none, some (some 83), some (some 84), some (some 85), none, some none, some none, some none, none, none, none, none, none, some none, none, some none, none, none, some none, some none]), .inr (.inl (0, 30)), .inr (.inl (0, 30)), .inr (.inl (0, 30)), .inr (.inl (0, 30)), .inr (.inl (0, 24)), .inr (.inl (0, 144))])) (t := 0) (N := 144) (ty := .int) (by decide +kernel) (by decide +kernel) rfl rfl (mx_in 96 (by decide +kernel) (by decide +kernel)) rfl (by decide) (by decide) (by decide) d_Mo_init_48 ?_
  refine EV.putR ff_Mo_25 rfl d_Mo_init_50 rfl rfl (fun _ => rfl) (fun _ => rfl) ?_
  refine EV.shp (S2 := (sh80 ++ [.inl (7, [none, some (some 81), some (some 82), none, some (some 83), some (some 84), some (some 85), none, some (some 86), some none, some none, none, none, none, none, none, some none, none, some none, none, none, some none, some none]), .inr (.inl (0, 30)), .inr (.inl (0, 30)), .inr (.inl (0, 30)), .inr (.inl (0, 30)), .inr (.inl (0, 24)), .inr (.inl (0, 144))])) (by decide +kernel) ?_
  refine EV.aload_n d_Mo_init_53 rfl ?_
  refine EV.bipush (v := nI 12) d_Mo_init_54 (by decide) ?_
  refine EV.newaL (a := 87) (S2 := (sh80 ++ [.inl (7, [none, some (some 81), some (some 82), none, some (some 83), some (some 84), some (some 85), none, some (some 86), some none, some none, none, none, none, none, none, some none, none, some none, none, none, some none, some none]), .inr (.inl (0, 30)), .inr (.inl (0, 30)), .inr (.inl (0, 30)), .inr (.inl (0, 30)), .inr (.inl (0, 24)), .inr (.inl (0, 144)), .inr (.inl (0, 12))])) (t := 0) (N := 12) (ty := .int) (by decide +kernel) (by decide +kernel) rfl rfl (mx_in 96 (by decide +kernel) (by decide +kernel)) rfl (by decide) (by decide) (by decide) d_Mo_init_56 ?_
  refine EV.putR ff_Mo_28 rfl d_Mo_init_58 rfl rfl (fun _ => rfl) (fun _ => rfl) ?_
  refine EV.shp (S2 := (sh80 ++ [.inl (7, [none, some (some 81), some (some 82), none, some (some 83), some (some 84), some (some 85), none, some (some 86), some (some 87), some none, none, none, none, none, none, some none, none, some none, none, none, some none, some none]), .inr (.inl (0, 30)), .inr (.inl (0, 30)), .inr (.inl (0, 30)), .inr (.inl (0, 30)), .inr (.inl (0, 24)), .inr (.inl (0, 144)), .inr (.inl (0, 12))])) (by decide +kernel) ?_
  refine EV.aload_n d_Mo_init_61 rfl ?_
  refine EV.bipush (v := nI 12) d_Mo_init_62 (by decide) ?_
  refine EV.newaL (a := 88) (S2 := (sh80 ++ [.inl (7, [none, some (some 81), some (some 82), none, some (some 83), some (some 84), some (some 85), none, some (some 86), some (some 87), some none, none, none, none, none, none, some none, none, some none, none, none, some none, some none]), .inr (.inl (0, 30)), .inr (.inl (0, 30)), .inr (.inl (0, 30)), .inr (.inl (0, 30)), .inr (.inl (0, 24)), .inr (.inl (0, 144)), .inr (.inl (0, 12)), .inr (.inl (0, 12))])) (t := 0) (N := 12) (ty := .int) (by decide +kernel) (by decide +kernel) rfl rfl (mx_in 96 (by decide +kernel) (by decide +kernel)) rfl (by decide) (by decide) (by decide) d_Mo_init_64 ?_
  refine EV.putR ff_Mo_31 rfl d_Mo_init_66 rfl rfl (fun _ => rfl) (fun _ => rfl) ?_
  refine EV.shp (S2 := (sh80 ++ [.inl (7, [none, some (some 81), some (some 82), none, some (some 83), some (some 84), some (some 85), none, some (some 86), some (some 87), some (some 88), none, none, none, none, none, some none, none, some none, none, none, some none, some none]), .inr (.inl (0, 30)), .inr (.inl (0, 30)), .inr (.inl (0, 30)), .inr (.inl (0, 30)), .inr (.inl (0, 24)), .inr (.inl (0, 144)), .inr (.inl (0, 12)), .inr (.inl (0, 12))])) (by decide +kernel) ?_
  refine EV.aload_n d_Mo_init_69 rfl ?_
  refine EV.iconst (v := nI 3) d_Mo_init_70 (by decide) ?_
  refine EV.putI fl_Mo_34 d_Mo_init_71 rfl rfl rfl rfl ?_
  refine EV.aload_n d_Mo_init_74 rfl ?_
  refine EV.bipush (v := nI 12) d_Mo_init_75 (by decide) ?_
  refine EV.newaL (a := 89) (S2 := (sh80 ++ [.inl (7, [none, some (some 81), some (some 82), none, some (some 83), some (some 84), some (some 85), none, some (some 86), some (some 87), some (some 88), none, none, none, none, none, some none, none, some none, none, none, some none, some none]), .inr (.inl (0, 30)), .inr (.inl (0, 30)), .inr (.inl (0, 30)), .inr (.inl (0, 30)), .inr (.inl (0, 24)), .inr (.inl (0, 144)), .inr (.inl (0, 12)), .inr (.inl (0, 12)), .inr (.inl (0, 12))])) (t := 0) (N := 12) (ty := .int) (by decide +kernel) (by decide +kernel) rfl rfl (mx_in 96 (by decide +kernel) (by decide +kernel)) rfl (by decide) (by decide) (by decide) d_Mo_init_77 ?_
  refine EV.putR ff_Mo_38 rfl d_Mo_init_79 rfl rfl (fun _ => rfl) (fun _ => rfl) ?_
  refine EV.shp (S2 := (sh80 ++ [.inl (7, [none, some (some 81), some (some 82), none, some (some 83), some (some 84), some (some 85), none, some (some 86), some (some 87), some (some 88), none, none, none, none, none, some (some 89), none, some none, none, none, some none, some none]), .inr (.inl (0, 30)), .inr (.inl (0, 30)), .inr (.inl (0, 30)), .inr (.inl (0, 30)), .inr (.inl (0, 24)), .inr (.inl (0, 144)), .inr (.inl (0, 12)), .inr (.inl (0, 12)), .inr (.inl (0, 12))])) (by decide +kernel) ?_
  refine EV.aload_n d_Mo_init_82 rfl ?_
  refine EV.bipush (v := nI 48) d_Mo_init_83 (by decide) ?_
  refine EV.newaL (a := 90) (S2 := (sh80 ++ [.inl (7, [none, some (some 81), some (some 82), none, some (some 83), some (some 84), some (some 85), none, some (some 86), some (some 87), some (some 88), none, none, none, none, none, some (some 89), none, some none, none, none, some none, some none]), .inr (.inl (0, 30)), .inr (.inl (0, 30)), .inr (.inl (0, 30)), .inr (.inl (0, 30)), .inr (.inl (0, 24)), .inr (.inl (0, 144)), .inr (.inl (0, 12)), .inr (.inl (0, 12)), .inr (.inl (0, 12)), .inr (.inl (0, 48))])) (t := 0) (N := 48) (ty := .int) (by decide +kernel) (by decide +kernel) rfl rfl (mx_in 96 (by decide +kernel) (by decide +kernel)) rfl (by decide) (by decide) (by decide) d_Mo_init_85 ?_
  refine EV.putR ff_Mo_41 rfl d_Mo_init_87 rfl rfl (fun _ => rfl) (fun _ => rfl) ?_
  refine EV.shp (S2 := (sh80 ++ [.inl (7, [none, some (some 81), some (some 82), none, some (some 83), some (some 84), some (some 85), none, some (some 86), some (some 87), some (some 88), none, none, none, none, none, some (some 89), none, some (some 90), none, none, some none, some none]), .inr (.inl (0, 30)), .inr (.inl (0, 30)), .inr (.inl (0, 30)), .inr (.inl (0, 30)), .inr (.inl (0, 24)), .inr (.inl (0, 144)), .inr (.inl (0, 12)), .inr (.inl (0, 12)), .inr (.inl (0, 12)), .inr (.inl (0, 48))])) (by decide +kernel) ?_
  refine EV.aload_n d_Mo_init_90 rfl ?_
  refine EV.sipush (v := nI 768) d_Mo_init_91 (by decide) ?_
  refine EV.newaL (a := 91) (S2 := (sh80 ++ [.inl (7, [none, some (some 81), some (some 82), none, some (some 83), some (some 84), some (some 85), none, some (some 86), some (some 87), some (some 88), none, none, none, none, none, some (some 89), none, some (some 90), none, none, some none, some none]), .inr (.inl (0, 30)), .inr (.inl (0, 30)), .inr (.inl (0, 30)), .inr (.inl (0, 30)), .inr (.inl (0, 24)), .inr (.inl (0, 144)), .inr (.inl (0, 12)), .inr (.inl (0, 12)), .inr (.inl (0, 12)), .inr (.inl (0, 48)), .inr (.inl (0, 768))])) (t := 0) (N := 768) (ty := .int) (by decide +kernel) (by decide +kernel) rfl rfl (mx_in 96 (by decide +kernel) (by decide +kernel)) rfl (by decide) (by decide) (by decide) d_Mo_init_94 ?_
  refine EV.putR ff_Mo_44 rfl d_Mo_init_96 rfl rfl (fun _ => rfl) (fun _ => rfl) ?_
  refine EV.shp (S2 := (sh80 ++ [.inl (7, [none, some (some 81), some (some 82), none, some (some 83), some (some 84), some (some 85), none, some (some 86), some (some 87), some (some 88), none, none, none, none, none, some (some 89), none, some (some 90), none, none, some (some 91), some none]), .inr (.inl (0, 30)), .inr (.inl (0, 30)), .inr (.inl (0, 30)), .inr (.inl (0, 30)), .inr (.inl (0, 24)), .inr (.inl (0, 144)), .inr (.inl (0, 12)), .inr (.inl (0, 12)), .inr (.inl (0, 12)), .inr (.inl (0, 48)), .inr (.inl (0, 768))])) (by decide +kernel) ?_
  refine EV.aload_n d_Mo_init_99 rfl ?_
  refine EV.bipush (v := nI 12) d_Mo_init_100 (by decide) ?_
  refine EV.newaL (a := 92) (S2 := (sh80 ++ [.inl (7, [none, some (some 81), some (some 82), none, some (some 83), some (some 84), some (some 85), none, some (some 86), some (some 87), some (some 88), none, none, none, none, none, some (some 89), none, some (some 90), none, none, some (some 91), some none]), .inr (.inl (0, 30)), .inr (.inl (0, 30)), .inr (.inl (0, 30)), .inr (.inl (0, 30)), .inr (.inl (0, 24)), .inr (.inl (0, 144)), .inr (.inl (0, 12)), .inr (.inl (0, 12)), .inr (.inl (0, 12)), .inr (.inl (0, 48)), .inr (.inl (0, 768)), .inr (.inl (0, 12))])) (t := 0) (N := 12) (ty := .int) (by decide +kernel) (by decide +kernel) rfl rfl (mx_in 96 (by decide +kernel) (by decide +kernel)) rfl (by decide) (by decide) (by decide) d_Mo_init_102 ?_
  refine EV.putR ff_Mo_47 rfl d_Mo_init_104 rfl rfl (fun _ => rfl) (fun _ => rfl) ?_
  refine EV.shp (S2 := (sh80 ++ [.inl (7, [none, some (some 81), some (some 82), none, some (some 83), some (some 84), some (some 85), none, some (some 86), some (some 87), some (some 88), none, none, none, none, none, some (some 89), none, some (some 90), none, none, some (some 91), some (some 92)]), .inr (.inl (0, 30)), .inr (.inl (0, 30)), .inr (.inl (0, 30)), .inr (.inl (0, 30)), .inr (.inl (0, 24)), .inr (.inl (0, 144)), .inr (.inl (0, 12)), .inr (.inl (0, 12)), .inr (.inl (0, 12)), .inr (.inl (0, 48)), .inr (.inl (0, 768)), .inr (.inl (0, 12))])) (by decide +kernel) ?_
  refine EV.aload_n d_Mo_init_107 rfl ?_
  refine EV.getR fl_Mo_7 d_Mo_init_108 rfl rfl ?_
  refine EV.iconst (v := nI 0) d_Mo_init_111 (by decide) ?_
  refine EV.bipush (v := nI 32) d_Mo_init_112 (by decide) ?_
  refine EV.iastN d_Mo_init_114 rfl rfl rfl (by decide) (by first | decide | omega) ?_
  refine EV.aload_n d_Mo_init_115 rfl ?_
  refine EV.getR fl_Mo_7 d_Mo_init_116 rfl rfl ?_
  refine EV.iconst (v := nI 1) d_Mo_init_119 (by decide) ?_
  refine EV.bipush (v := nI 45) d_Mo_init_120 (by decide) ?_
  refine EV.iastN d_Mo_init_122 rfl rfl rfl (by decide) (by first | decide | omega) ?_
  refine EV.aload_n d_Mo_init_123 rfl ?_
  refine EV.getR fl_Mo_13 d_Mo_init_124 rfl rfl ?_
  refine EV.iconst (v := nI 0) d_Mo_init_127 (by decide) ?_
  refine EV.iconst (v := nI 1) d_Mo_init_128 (by decide) ?_
  refine EV.iastN d_Mo_init_129 rfl rfl rfl (by decide) (by first | decide | omega) ?_
  refine EV.aload_n d_Mo_init_130 rfl ?_
  refine EV.getR fl_Mo_13 d_Mo_init_131 rfl rfl ?_
  refine EV.iconst (v := nI 1) d_Mo_init_134 (by decide) ?_
  refine EV.iconst (v := nI 1) d_Mo_init_135 (by decide) ?_
  refine EV.iastN d_Mo_init_136 rfl rfl rfl (by decide) (by first | decide | omega) ?_
  refine EV.iconst (v := nI 0) d_Mo_init_137 (by decide) ?_
  refine EV.istore_n d_Mo_init_138 (by decide) ?_
  refine lp_Mo_init 8 0 _ (by decide) rfl (fun q hq => ?_) (fun j hj => ?_) ?_ ?_ ?_
  · simp [mx_w, mx_z, va_up, show ¬ q = 80 by omega, show ¬ q = 81 by omega, show ¬ q = 82 by omega, show ¬ q = 83 by omega, show ¬ q = 84 by omega, show ¬ q = 85 by omega, show ¬ q = 86 by omega, show ¬ q = 87 by omega, show ¬ q = 88 by omega, show ¬ q = 89 by omega, show ¬ q = 90 by omega, show ¬ q = 91 by omega, show ¬ q = 92 by omega]
  · simp [mx_w, mx_z, va_up, upd, hj, h0]
  · simp [mx_w, mx_z, va_up, upd]
  · simp [mx_w, mx_z, va_up]
  · intro i e he
    rcases (show i = 0 ∨ i = 1 ∨ 2 ≤ i by omega) with rfl | rfl | hi
    · cases he; simp [mx_w, mx_z, va_up, upd, ps_enc]
    · cases he; simp [mx_w, mx_z, va_up, upd, ps_enc]
    · have := (List.getElem?_eq_some_iff.mp he).1
      simp [tb_k] at this
      omega
