def ln3 (x : Int32) : Option Nat := if x = nI 0 then some 0 else if x = nI 1 then some 1 else if x = nI 2 then some 2 else none
def op_type (σ : sg) (x : Int32) (c : Nat) : Int32 × sg := match ln3 x with
  | some j => if (if j = 2 then decide (32 ≤ c ∧ c ≤ 126) else ps_txt c) = true ∧ (σ.1 j).length < (if j = 2 then 24 else 12) then (nI 1, sg_up σ j (σ.1 j ++ [c])) else (nI 0, σ)
  | none => (nI 0, σ)
def op_wipe (σ : sg) (x : Int32) : Int32 × sg := match ln3 x with
  | some j => (nI (σ.1 j).length, sg_up σ j [])
  | none => (-1, σ)
theorem ln3_n {x : Int32} (h : x < 0 ∨ nI 3 ≤ x) : ln3 x = none := by
  unfold ln3
  rw [if_neg (fun q => by subst q; rcases h with h | h <;> exact absurd h (by decide)), if_neg (fun q => by subst q; rcases h with h | h <;> exact absurd h (by decide)), if_neg (fun q => by subst q; rcases h with h | h <;> exact absurd h (by decide))]
theorem sg_up_id {σ : sg} {j : Nat} : sg_up σ j (σ.1 j) = σ := by
  unfold sg_up
  have : (fun i => if i = j then σ.1 j else σ.1 i) = σ.1 := by
    funext i
    by_cases h : i = j
    · subst h; simp
    · simp [h]
  rw [this]
theorem CI_line {D D' : mx_Mem} {σ : sg} {j : Nat} {xs : List Nat} (hC : CI D σ) (hl : σ.2.2.2.1.length ≤ 10) (hj : j < 3) (hF : ∀ q, ¬ q = 3 + 4 * j → ¬ q = 3 + 4 * j + 1 → D' q = D q) (hL : LN D' (3 + 4 * j) xs) : CI D' (sg_up σ j xs) := by
  obtain ⟨⟨h1, h2, h3⟩, h4, ⟨h5, h6, h7⟩, h8, h9⟩ := hC
  have g : ∀ q, 12 < q → D' q = D q := fun q hq => hF q (by omega) (by omega)
  have r := fun (k : Nat) (ys : List Nat) (hk : LN D k ys) (a : ¬ k = 3 + 4 * j) (b : ¬ k + 1 = 3 + 4 * j) (c : ¬ k = 3 + 4 * j + 1) => LN_kept hk (hF k a c) (hF (k + 1) b (by omega))
  refine ⟨?_, TBw_kept h4 (fun i hi => g _ (by omega)), ⟨by rw [g 28 (by omega)]; exact h5, by rw [g 28 (by omega)]; exact h6, by rw [g 28 (by omega)]; exact h7⟩, FO_kept h8 hl (by rw [g 36 (by omega)]) (g 38 (by omega)) (fun i hi => ⟨g _ (by omega), g _ (by omega)⟩), by rw [g 36 (by omega)]; exact h9⟩
  rcases (show j = 0 ∨ j = 1 ∨ j = 2 by omega) with rfl | rfl | rfl
  · exact ⟨by simpa [sg_up] using hL, by simpa [sg_up] using r 7 _ h2 (by omega) (by omega) (by omega), by simpa [sg_up] using r 11 _ h3 (by omega) (by omega) (by omega)⟩
  · exact ⟨by simpa [sg_up] using r 3 _ h1 (by omega) (by omega) (by omega), by simpa [sg_up] using hL, by simpa [sg_up] using r 11 _ h3 (by omega) (by omega) (by omega)⟩
  · exact ⟨by simpa [sg_up] using r 3 _ h1 (by omega) (by omega) (by omega), by simpa [sg_up] using r 7 _ h2 (by omega) (by omega) (by omega), by simpa [sg_up] using hL⟩
def op_form (σ : sg) (x : Int32) (b1 b2 : Bool) : Int32 × sg := if x < nI 1 ∨ nI 4 < x then (nI 0, σ) else (nI 1, (σ.1, σ.2.1, (x.toNatClampNeg, b1, b2), σ.2.2.2))
def op_klen (σ : sg) (x : Int32) : Int32 := if x = nI 0 then nI (sg_k σ (σ.1 0)).length else if x = nI 1 then nI (sg_k σ (σ.1 1)).length else -1
def ps_nth (l : List Nat) (y : Int32) : Int32 := if y < 0 ∨ nI l.length ≤ y then -1 else nI (l.getD y.toNatClampNeg 0)
def op_kat (σ : sg) (x y : Int32) : Int32 := if x = nI 0 then ps_nth (sg_k σ (σ.1 0)) y else if x = nI 1 then ps_nth (sg_k σ (σ.1 1)) y else -1
def op_cmp (σ : sg) : Int32 := ps_cmp (sg_k σ (σ.1 0)) (sg_k σ (σ.1 1))
def op_put (σ : sg) (xs : List Nat) : Int32 × sg := if σ.2.2.2.1.length < 10 then (nI σ.2.2.2.2, (σ.1, σ.2.1, σ.2.2.1, σ.2.2.2.1 ++ [(σ.2.2.2.2, xs)], σ.2.2.2.2 + 1)) else (-1, σ)
def op_file (σ : sg) (x : Int32) : Int32 × sg := if x = nI 0 then op_put σ (σ.1 0) else if x = nI 1 then op_put σ (σ.1 1) else (-1, σ)
def op_unf (σ : sg) (x : Int32) : Int32 × sg := match σ.2.2.2.1.findIdx? (fun e => decide (nI e.1 = x)) with
  | some i => (nI 1, (σ.1, σ.2.1, σ.2.2.1, σ.2.2.2.1.eraseIdx i, σ.2.2.2.2))
  | none => (nI 0, σ)
def ps_num (ks : List (List Nat)) (x : Int32) : Nat → ps_F → Int32
  | _, [] => -1
  | i, e :: r => if nI (ps_plc ks i) = x then nI e.1 else ps_num ks x (i + 1) r
def op_ord (σ : sg) (x : Int32) : Int32 := ps_num (sg_ks σ) x 0 σ.2.2.2.1
def op_bel (σ : sg) (x : Int32) : Int32 := if x = nI 0 then nI (ps_cl (sg_ks σ) (sg_k σ (σ.1 0))) else if x = nI 1 then nI (ps_cl (sg_ks σ) (sg_k σ (σ.1 1))) else -1
theorem NumP_num (ks : List (List Nat)) (x r : Int32) : ∀ (fl : ps_F) (a : Nat), ((∃ (i : Nat) (e : Nat × List Nat), fl[i]? = some e ∧ nI (ps_plc ks (a + i)) = x ∧ (∀ j, j < i → ¬ nI (ps_plc ks (a + j)) = x) ∧ r = nI e.1) ∨ ((∀ j, j < fl.length → ¬ nI (ps_plc ks (a + j)) = x) ∧ r = -1)) → r = ps_num ks x a fl := by
  intro fl
  induction fl with
  | nil =>
    intro a h
    rcases h with ⟨i, e, h, -⟩ | ⟨-, h⟩
    · simp at h
    · exact h
  | cons u t ih =>
    intro a h
    simp only [ps_num]
    by_cases hq : nI (ps_plc ks a) = x
    · rw [if_pos hq]
      rcases h with ⟨i, e, h1, h2, h3, h4⟩ | ⟨h1, -⟩
      · cases i with
        | zero => simp at h1; rw [h4, h1]
        | succ i => exact absurd hq (h3 0 (by omega))
      · exact absurd hq (h1 0 (by simp))
    · rw [if_neg hq]
      refine ih (a + 1) ?_
      rcases h with ⟨i, e, h1, h2, h3, h4⟩ | ⟨h1, h2⟩
      · cases i with
        | zero => exact absurd h2 hq
        | succ i => exact Or.inl ⟨i, e, by simpa using h1, by rw [show a + 1 + i = a + (i + 1) by omega]; exact h2, fun j hj => by rw [show a + 1 + j = a + (j + 1) by omega]; exact h3 (j + 1) (by omega), h4⟩
      · exact Or.inr ⟨fun j hj => by rw [show a + 1 + j = a + (j + 1) by omega]; exact h1 (j + 1) (by simp; omega), h2⟩
theorem NumP_op {σ : sg} {x r : Int32} (h : NumP σ.2.2.2.1 (sg_ks σ) x r) : r = op_ord σ x := NumP_num (sg_ks σ) x r σ.2.2.2.1 0 (by simpa [NumP] using h)
set_option maxHeartbeats 4000000 in
set_option maxRecDepth 100000 in
theorem lp_To_type0 {G : mx_G} {d : Nat} {S : List mx_Sh} {D : mx_Mem} {σ : sg} {c : Nat} (hS : SH S) (hC : CI D σ) (hI : SI σ) (hc : c < 65536) {b : Bool} (hb : b = ps_txt c) : EV G (d + 1) m_To_type 62 [some (.ref 0), some (.int (nI 0)), some (.int (nI c)), none] [.int (bI b)] S D S (PC D (op_type σ (nI 0) c).2 (op_type σ (nI 0) c).1) := by
  obtain ⟨hz0, hz1, hz2, ⟨hL3, hL7, hL11⟩, ⟨hK5, hK9⟩, ⟨hT13, hT19⟩, hR25, hM28, hF36⟩ := id hS
  obtain ⟨hf0, hf1, hf2, hf3, hf4⟩ := id hF36
  have hl10 := hI.2.2.2.2.2.1
  obtain ⟨hLa, hLb⟩ := id hL3
  have hle : (σ.1 0).length ≤ 12 := hI.1.1.1
  have hop : op_type σ (nI 0) c = if b = true ∧ (σ.1 0).length < 12 then (nI 1, sg_up σ 0 (σ.1 0 ++ [c])) else (nI 0, σ) := by subst hb; rfl
  rw [hop]
  refine EV.istore_n d_To_type_62 (by decide) ?_
  refine EV.iload_n d_To_type_63 rfl ?_
  refine EV.if_eqB (tgt := 84) d_To_type_64 (by decide) (fun h64 => ?_) (fun h64 => ?_)
  · refine EV.iconst (v := nI 0) d_To_type_84 (by decide) ?_
    rw [if_neg (by simp [h64])]
    exact EV.ireturn d_To_type_85 ⟨_, rfl, rfl⟩ ⟨rfl, hC, fun _ _ => rfl⟩
  refine EV.aload_n d_To_type_67 rfl ?_
  refine EV.getR fl_To_11 d_To_type_68 (by first | assumption | rfl) rfl ?_
  refine EV.iload_n d_To_type_71 rfl ?_
  refine EV.aaldN d_To_type_72 (by first | assumption | rfl) rfl rfl rfl (by decide) rfl ?_
  refine EV.iload_n d_To_type_73 rfl ?_
  refine EV.V1 cv_To_68 d_To_type_74 (by first | assumption | rfl) (sp_Li_append hL3 hC.1.1 hle (by decide) hc) ⟨Nat.le_refl _, Nat.le_refl _⟩ rfl rfl (Nat.le_of_ble_eq_true rfl) (fun rv D1 hp => ?_)
  obtain ⟨q1, rfl, q2⟩ := hp
  refine EV.if_eqB (tgt := 84) d_To_type_77 (by decide) (fun h77 => ?_) (fun h77 => ?_)
  · have h7 : ¬ (σ.1 0).length < 12 := by simpa using h77
    refine EV.iconst (v := nI 0) d_To_type_84 (by decide) ?_
    rw [if_neg (fun z => h7 z.2)]
    rw [if_neg h7] at q2
    have := CI_line (j := 0) hC hl10 (by decide) q1 q2
    rw [sg_up_id] at this
    exact EV.ireturn d_To_type_85 ⟨_, rfl, rfl⟩ ⟨rfl, this, fun q hq => q1 q (by omega) (by omega)⟩
  have h7 : (σ.1 0).length < 12 := by simpa using h77
  rw [if_pos h7] at q2
  rw [if_pos ⟨h64, h7⟩]
  refine EV.iconst (v := nI 1) d_To_type_80 (by decide) ?_
  refine EV.goto (tgt := 85) d_To_type_81 (by decide) ?_
  exact EV.ireturn d_To_type_85 ⟨_, rfl, rfl⟩ ⟨rfl, CI_line (j := 0) hC hl10 (by decide) q1 q2, fun q hq => q1 q (by omega) (by omega)⟩
set_option maxHeartbeats 4000000 in
set_option maxRecDepth 100000 in
theorem sp_To_type0 {G : mx_G} {d : Nat} {S : List mx_Sh} {D : mx_Mem} {σ : sg} {c : Nat} (hS : SH S) (hC : CI D σ) (hI : SI σ) (hc : c < 65536) : EV G (d + 1) m_To_type 0 (mx_lc0 m_To_type [.ref 0, .int (nI 0), .int (nI c)]) [] S D S (PC D (op_type σ (nI 0) c).2 (op_type σ (nI 0) c).1) := by
  show EV _ _ _ _ [some (.ref 0), some (.int (nI 0)), some (.int (nI c)), none] [] _ _ _ _
  refine EV.iload_n d_To_type_0 rfl ?_
  refine EV.if_ltN (tgt := 9) d_To_type_1 rfl (by decide) (by decide) ?_
  refine EV.iload_n d_To_type_4 rfl ?_
  refine EV.iconst (v := nI 3) d_To_type_5 (by decide) ?_
  refine EV.icmp_ltN (tgt := 11) d_To_type_6 (by decide) rfl rfl (by omega) (by omega) (fun h6 => ?_) (fun h6 => ?_)
  · refine EV.iload_n d_To_type_11 rfl ?_
    refine EV.iconst (v := nI 2) d_To_type_12 (by decide) ?_
    refine EV.icmp_neN (tgt := 36) d_To_type_13 (by decide) rfl rfl (by omega) (by omega) (fun h13 => ?_) (fun h13 => ?_)
    · refine EV.iload_n d_To_type_36 rfl ?_
      refine EV.T1 cs_To_58 d_To_type_37 (sp_To_isLetter (by omega)) ⟨Nat.le_refl _, Nat.le_refl _⟩ rfl rfl (Nat.le_of_ble_eq_true rfl) (fun rv D1 hp => ?_)
      obtain ⟨rfl, hD⟩ := hp
      obtain rfl := hD.symm
      refine EV.if_neB (tgt := 57) d_To_type_40 (by decide) (fun h40 => ?_) (fun h40 => ?_)
      · refine EV.iconst (v := nI 1) d_To_type_57 (by decide) ?_
        refine EV.goto (tgt := 62) d_To_type_58 (by decide) ?_
        exact lp_To_type0 (b := true) hS hC hI hc (by simp [ps_txt, h40])
      refine EV.iload_n d_To_type_43 rfl ?_
      refine EV.T1 cs_To_62 d_To_type_44 (sp_To_isVariable (by omega)) ⟨Nat.le_refl _, Nat.le_refl _⟩ rfl rfl (Nat.le_of_ble_eq_true rfl) (fun rv D1 hp => ?_)
      obtain ⟨rfl, hD⟩ := hp
      obtain rfl := hD.symm
      refine EV.if_neB (tgt := 57) d_To_type_47 (by decide) (fun h47 => ?_) (fun h47 => ?_)
      · refine EV.iconst (v := nI 1) d_To_type_57 (by decide) ?_
        refine EV.goto (tgt := 62) d_To_type_58 (by decide) ?_
        exact lp_To_type0 (b := true) hS hC hI hc (by simp [ps_txt, h47])
      refine EV.iload_n d_To_type_50 rfl ?_
      refine EV.T1 cs_To_65 d_To_type_51 (sp_To_isMark (by omega)) ⟨Nat.le_refl _, Nat.le_refl _⟩ rfl rfl (Nat.le_of_ble_eq_true rfl) (fun rv D1 hp => ?_)
      obtain ⟨rfl, hD⟩ := hp
      obtain rfl := hD.symm
      refine EV.if_eqB (tgt := 61) d_To_type_54 (by decide) (fun h54 => ?_) (fun h54 => ?_)
      · refine EV.iconst (v := nI 0) d_To_type_61 (by decide) ?_
        exact lp_To_type0 (b := false) hS hC hI hc (by simp [ps_txt, h40, h47, h54])
      · refine EV.iconst (v := nI 1) d_To_type_57 (by decide) ?_
        refine EV.goto (tgt := 62) d_To_type_58 (by decide) ?_
        exact lp_To_type0 (b := true) hS hC hI hc (by simp [ps_txt, h54])
    · exfalso
      omega
  · exfalso
    omega
set_option maxHeartbeats 4000000 in
set_option maxRecDepth 100000 in
theorem lp_To_type1 {G : mx_G} {d : Nat} {S : List mx_Sh} {D : mx_Mem} {σ : sg} {c : Nat} (hS : SH S) (hC : CI D σ) (hI : SI σ) (hc : c < 65536) {b : Bool} (hb : b = ps_txt c) : EV G (d + 1) m_To_type 62 [some (.ref 0), some (.int (nI 1)), some (.int (nI c)), none] [.int (bI b)] S D S (PC D (op_type σ (nI 1) c).2 (op_type σ (nI 1) c).1) := by
  obtain ⟨hz0, hz1, hz2, ⟨hL3, hL7, hL11⟩, ⟨hK5, hK9⟩, ⟨hT13, hT19⟩, hR25, hM28, hF36⟩ := id hS
  obtain ⟨hf0, hf1, hf2, hf3, hf4⟩ := id hF36
  have hl10 := hI.2.2.2.2.2.1
  obtain ⟨hLa, hLb⟩ := id hL7
  have hle : (σ.1 1).length ≤ 12 := hI.1.2.1
  have hop : op_type σ (nI 1) c = if b = true ∧ (σ.1 1).length < 12 then (nI 1, sg_up σ 1 (σ.1 1 ++ [c])) else (nI 0, σ) := by subst hb; rfl
  rw [hop]
  refine EV.istore_n d_To_type_62 (by decide) ?_
  refine EV.iload_n d_To_type_63 rfl ?_
  refine EV.if_eqB (tgt := 84) d_To_type_64 (by decide) (fun h64 => ?_) (fun h64 => ?_)
  · refine EV.iconst (v := nI 0) d_To_type_84 (by decide) ?_
    rw [if_neg (by simp [h64])]
    exact EV.ireturn d_To_type_85 ⟨_, rfl, rfl⟩ ⟨rfl, hC, fun _ _ => rfl⟩
  refine EV.aload_n d_To_type_67 rfl ?_
  refine EV.getR fl_To_11 d_To_type_68 (by first | assumption | rfl) rfl ?_
  refine EV.iload_n d_To_type_71 rfl ?_
  refine EV.aaldN d_To_type_72 (by first | assumption | rfl) rfl rfl rfl (by decide) rfl ?_
  refine EV.iload_n d_To_type_73 rfl ?_
  refine EV.V1 cv_To_68 d_To_type_74 (by first | assumption | rfl) (sp_Li_append hL7 hC.1.2.1 hle (by decide) hc) ⟨Nat.le_refl _, Nat.le_refl _⟩ rfl rfl (Nat.le_of_ble_eq_true rfl) (fun rv D1 hp => ?_)
  obtain ⟨q1, rfl, q2⟩ := hp
  refine EV.if_eqB (tgt := 84) d_To_type_77 (by decide) (fun h77 => ?_) (fun h77 => ?_)
  · have h7 : ¬ (σ.1 1).length < 12 := by simpa using h77
    refine EV.iconst (v := nI 0) d_To_type_84 (by decide) ?_
    rw [if_neg (fun z => h7 z.2)]
    rw [if_neg h7] at q2
    have := CI_line (j := 1) hC hl10 (by decide) q1 q2
    rw [sg_up_id] at this
    exact EV.ireturn d_To_type_85 ⟨_, rfl, rfl⟩ ⟨rfl, this, fun q hq => q1 q (by omega) (by omega)⟩
  have h7 : (σ.1 1).length < 12 := by simpa using h77
  rw [if_pos h7] at q2
  rw [if_pos ⟨h64, h7⟩]
  refine EV.iconst (v := nI 1) d_To_type_80 (by decide) ?_
  refine EV.goto (tgt := 85) d_To_type_81 (by decide) ?_
  exact EV.ireturn d_To_type_85 ⟨_, rfl, rfl⟩ ⟨rfl, CI_line (j := 1) hC hl10 (by decide) q1 q2, fun q hq => q1 q (by omega) (by omega)⟩
set_option maxHeartbeats 4000000 in
set_option maxRecDepth 100000 in
theorem sp_To_type1 {G : mx_G} {d : Nat} {S : List mx_Sh} {D : mx_Mem} {σ : sg} {c : Nat} (hS : SH S) (hC : CI D σ) (hI : SI σ) (hc : c < 65536) : EV G (d + 1) m_To_type 0 (mx_lc0 m_To_type [.ref 0, .int (nI 1), .int (nI c)]) [] S D S (PC D (op_type σ (nI 1) c).2 (op_type σ (nI 1) c).1) := by
  show EV _ _ _ _ [some (.ref 0), some (.int (nI 1)), some (.int (nI c)), none] [] _ _ _ _
  refine EV.iload_n d_To_type_0 rfl ?_
  refine EV.if_ltN (tgt := 9) d_To_type_1 rfl (by decide) (by decide) ?_
  refine EV.iload_n d_To_type_4 rfl ?_
  refine EV.iconst (v := nI 3) d_To_type_5 (by decide) ?_
  refine EV.icmp_ltN (tgt := 11) d_To_type_6 (by decide) rfl rfl (by omega) (by omega) (fun h6 => ?_) (fun h6 => ?_)
  · refine EV.iload_n d_To_type_11 rfl ?_
    refine EV.iconst (v := nI 2) d_To_type_12 (by decide) ?_
    refine EV.icmp_neN (tgt := 36) d_To_type_13 (by decide) rfl rfl (by omega) (by omega) (fun h13 => ?_) (fun h13 => ?_)
    · refine EV.iload_n d_To_type_36 rfl ?_
      refine EV.T1 cs_To_58 d_To_type_37 (sp_To_isLetter (by omega)) ⟨Nat.le_refl _, Nat.le_refl _⟩ rfl rfl (Nat.le_of_ble_eq_true rfl) (fun rv D1 hp => ?_)
      obtain ⟨rfl, hD⟩ := hp
      obtain rfl := hD.symm
      refine EV.if_neB (tgt := 57) d_To_type_40 (by decide) (fun h40 => ?_) (fun h40 => ?_)
      · refine EV.iconst (v := nI 1) d_To_type_57 (by decide) ?_
        refine EV.goto (tgt := 62) d_To_type_58 (by decide) ?_
        exact lp_To_type1 (b := true) hS hC hI hc (by simp [ps_txt, h40])
      refine EV.iload_n d_To_type_43 rfl ?_
      refine EV.T1 cs_To_62 d_To_type_44 (sp_To_isVariable (by omega)) ⟨Nat.le_refl _, Nat.le_refl _⟩ rfl rfl (Nat.le_of_ble_eq_true rfl) (fun rv D1 hp => ?_)
      obtain ⟨rfl, hD⟩ := hp
      obtain rfl := hD.symm
      refine EV.if_neB (tgt := 57) d_To_type_47 (by decide) (fun h47 => ?_) (fun h47 => ?_)
      · refine EV.iconst (v := nI 1) d_To_type_57 (by decide) ?_
        refine EV.goto (tgt := 62) d_To_type_58 (by decide) ?_
        exact lp_To_type1 (b := true) hS hC hI hc (by simp [ps_txt, h47])
      refine EV.iload_n d_To_type_50 rfl ?_
      refine EV.T1 cs_To_65 d_To_type_51 (sp_To_isMark (by omega)) ⟨Nat.le_refl _, Nat.le_refl _⟩ rfl rfl (Nat.le_of_ble_eq_true rfl) (fun rv D1 hp => ?_)
      obtain ⟨rfl, hD⟩ := hp
      obtain rfl := hD.symm
      refine EV.if_eqB (tgt := 61) d_To_type_54 (by decide) (fun h54 => ?_) (fun h54 => ?_)
      · refine EV.iconst (v := nI 0) d_To_type_61 (by decide) ?_
        exact lp_To_type1 (b := false) hS hC hI hc (by simp [ps_txt, h40, h47, h54])
      · refine EV.iconst (v := nI 1) d_To_type_57 (by decide) ?_
        refine EV.goto (tgt := 62) d_To_type_58 (by decide) ?_
        exact lp_To_type1 (b := true) hS hC hI hc (by simp [ps_txt, h54])
    · exfalso
      omega
  · exfalso
    omega
set_option maxHeartbeats 4000000 in
set_option maxRecDepth 100000 in
theorem lp_To_type2 {G : mx_G} {d : Nat} {S : List mx_Sh} {D : mx_Mem} {σ : sg} {c : Nat} (hS : SH S) (hC : CI D σ) (hI : SI σ) (hc : c < 65536) {b : Bool} (hb : b = decide (32 ≤ c ∧ c ≤ 126)) : EV G (d + 1) m_To_type 62 [some (.ref 0), some (.int (nI 2)), some (.int (nI c)), none] [.int (bI b)] S D S (PC D (op_type σ (nI 2) c).2 (op_type σ (nI 2) c).1) := by
  obtain ⟨hz0, hz1, hz2, ⟨hL3, hL7, hL11⟩, ⟨hK5, hK9⟩, ⟨hT13, hT19⟩, hR25, hM28, hF36⟩ := id hS
  obtain ⟨hf0, hf1, hf2, hf3, hf4⟩ := id hF36
  have hl10 := hI.2.2.2.2.2.1
  obtain ⟨hLa, hLb⟩ := id hL11
  have hle : (σ.1 2).length ≤ 24 := hI.2.1.1
  have hop : op_type σ (nI 2) c = if b = true ∧ (σ.1 2).length < 24 then (nI 1, sg_up σ 2 (σ.1 2 ++ [c])) else (nI 0, σ) := by subst hb; rfl
  rw [hop]
  refine EV.istore_n d_To_type_62 (by decide) ?_
  refine EV.iload_n d_To_type_63 rfl ?_
  refine EV.if_eqB (tgt := 84) d_To_type_64 (by decide) (fun h64 => ?_) (fun h64 => ?_)
  · refine EV.iconst (v := nI 0) d_To_type_84 (by decide) ?_
    rw [if_neg (by simp [h64])]
    exact EV.ireturn d_To_type_85 ⟨_, rfl, rfl⟩ ⟨rfl, hC, fun _ _ => rfl⟩
  refine EV.aload_n d_To_type_67 rfl ?_
  refine EV.getR fl_To_11 d_To_type_68 (by first | assumption | rfl) rfl ?_
  refine EV.iload_n d_To_type_71 rfl ?_
  refine EV.aaldN d_To_type_72 (by first | assumption | rfl) rfl rfl rfl (by decide) rfl ?_
  refine EV.iload_n d_To_type_73 rfl ?_
  refine EV.V1 cv_To_68 d_To_type_74 (by first | assumption | rfl) (sp_Li_append hL11 hC.1.2.2 hle (by decide) hc) ⟨Nat.le_refl _, Nat.le_refl _⟩ rfl rfl (Nat.le_of_ble_eq_true rfl) (fun rv D1 hp => ?_)
  obtain ⟨q1, rfl, q2⟩ := hp
  refine EV.if_eqB (tgt := 84) d_To_type_77 (by decide) (fun h77 => ?_) (fun h77 => ?_)
  · have h7 : ¬ (σ.1 2).length < 24 := by simpa using h77
    refine EV.iconst (v := nI 0) d_To_type_84 (by decide) ?_
    rw [if_neg (fun z => h7 z.2)]
    rw [if_neg h7] at q2
    have := CI_line (j := 2) hC hl10 (by decide) q1 q2
    rw [sg_up_id] at this
    exact EV.ireturn d_To_type_85 ⟨_, rfl, rfl⟩ ⟨rfl, this, fun q hq => q1 q (by omega) (by omega)⟩
  have h7 : (σ.1 2).length < 24 := by simpa using h77
  rw [if_pos h7] at q2
  rw [if_pos ⟨h64, h7⟩]
  refine EV.iconst (v := nI 1) d_To_type_80 (by decide) ?_
  refine EV.goto (tgt := 85) d_To_type_81 (by decide) ?_
  exact EV.ireturn d_To_type_85 ⟨_, rfl, rfl⟩ ⟨rfl, CI_line (j := 2) hC hl10 (by decide) q1 q2, fun q hq => q1 q (by omega) (by omega)⟩
set_option maxHeartbeats 4000000 in
set_option maxRecDepth 100000 in
theorem sp_To_type2 {G : mx_G} {d : Nat} {S : List mx_Sh} {D : mx_Mem} {σ : sg} {c : Nat} (hS : SH S) (hC : CI D σ) (hI : SI σ) (hc : c < 65536) : EV G (d + 1) m_To_type 0 (mx_lc0 m_To_type [.ref 0, .int (nI 2), .int (nI c)]) [] S D S (PC D (op_type σ (nI 2) c).2 (op_type σ (nI 2) c).1) := by
  show EV _ _ _ _ [some (.ref 0), some (.int (nI 2)), some (.int (nI c)), none] [] _ _ _ _
  refine EV.iload_n d_To_type_0 rfl ?_
  refine EV.if_ltN (tgt := 9) d_To_type_1 rfl (by decide) (by decide) ?_
  refine EV.iload_n d_To_type_4 rfl ?_
  refine EV.iconst (v := nI 3) d_To_type_5 (by decide) ?_
  refine EV.icmp_ltN (tgt := 11) d_To_type_6 (by decide) rfl rfl (by omega) (by omega) (fun h6 => ?_) (fun h6 => ?_)
  · refine EV.iload_n d_To_type_11 rfl ?_
    refine EV.iconst (v := nI 2) d_To_type_12 (by decide) ?_
    refine EV.icmp_neN (tgt := 36) d_To_type_13 (by decide) rfl rfl (by omega) (by omega) (fun h13 => ?_) (fun h13 => ?_)
    · exfalso
      omega
    · refine EV.iload_n d_To_type_16 rfl ?_
      refine EV.bipush (v := nI 32) d_To_type_17 (by decide) ?_
      refine EV.icmp_ltN (tgt := 32) d_To_type_19 (by decide) rfl rfl (by omega) (by omega) (fun h19 => ?_) (fun h19 => ?_)
      · refine EV.iconst (v := nI 0) d_To_type_32 (by decide) ?_
        refine EV.goto (tgt := 62) d_To_type_33 (by decide) ?_
        first
        | exact lp_To_type2 (b := true) hS hC hI hc (by simp; omega)
        | exact lp_To_type2 (b := false) hS hC hI hc (by simp; omega)
      · refine EV.iload_n d_To_type_22 rfl ?_
        refine EV.bipush (v := nI 126) d_To_type_23 (by decide) ?_
        refine EV.icmp_gtN (tgt := 32) d_To_type_25 (by decide) rfl rfl (by omega) (by omega) (fun h25 => ?_) (fun h25 => ?_)
        · refine EV.iconst (v := nI 0) d_To_type_32 (by decide) ?_
          refine EV.goto (tgt := 62) d_To_type_33 (by decide) ?_
          first
          | exact lp_To_type2 (b := true) hS hC hI hc (by simp; omega)
          | exact lp_To_type2 (b := false) hS hC hI hc (by simp; omega)
        · refine EV.iconst (v := nI 1) d_To_type_28 (by decide) ?_
          refine EV.goto (tgt := 62) d_To_type_29 (by decide) ?_
          first
          | exact lp_To_type2 (b := true) hS hC hI hc (by simp; omega)
          | exact lp_To_type2 (b := false) hS hC hI hc (by simp; omega)
  · exfalso
    omega
set_option maxHeartbeats 4000000 in
set_option maxRecDepth 100000 in
theorem sp_To_typeN {G : mx_G} {d : Nat} {S : List mx_Sh} {D : mx_Mem} {σ : sg} (hS : SH S) (hC : CI D σ) (hI : SI σ) {x : Int32} {c : Nat} (hx : x < 0 ∨ nI 3 ≤ x) : EV G (d + 1) m_To_type 0 (mx_lc0 m_To_type [.ref 0, .int x, .int (nI c)]) [] S D S (PC D (op_type σ x c).2 (op_type σ x c).1) := by
  show EV _ _ _ _ [some (.ref 0), some (.int x), some (.int (nI c)), none] [] _ _ _ _
  refine EV.iload_n d_To_type_0 rfl ?_
  refine EV.if_lt (tgt := 9) d_To_type_1 (by decide) (fun h1 => ?_) (fun h1 => ?_)
  · refine EV.iconst (v := nI 0) d_To_type_9 (by decide) ?_
    exact EV.ireturn d_To_type_10 ⟨_, rfl, rfl⟩ ⟨by unfold op_type; rw [ln3_n hx], by unfold op_type; rw [ln3_n hx]; exact hC, fun _ _ => rfl⟩
  · refine EV.iload_n d_To_type_4 rfl ?_
    refine EV.iconst (v := nI 3) d_To_type_5 (by decide) ?_
    refine EV.icmp_lt (tgt := 11) d_To_type_6 (by decide) (fun h6 => ?_) (fun h6 => ?_)
    · exfalso
      exact hx.elim h1 (fun h => absurd h6 (Int32.not_lt.mpr h))
    · refine EV.iconst (v := nI 0) d_To_type_9 (by decide) ?_
      exact EV.ireturn d_To_type_10 ⟨_, rfl, rfl⟩ ⟨by unfold op_type; rw [ln3_n hx], by unfold op_type; rw [ln3_n hx]; exact hC, fun _ _ => rfl⟩
set_option maxHeartbeats 4000000 in
set_option maxRecDepth 100000 in
theorem cl_type {G : mx_G} {d : Nat} {S : List mx_Sh} {D : mx_Mem} {σ : sg} (hS : SH S) (hC : CI D σ) (hI : SI σ) {x : Int32} {c : Nat} (hc : c < 65536) : EV G (d + 1) m_To_type 0 (mx_lc0 m_To_type [.ref 0, .int x, .int (nI c)]) [] S D S (PC D (op_type σ x c).2 (op_type σ x c).1) := by
  rcases pk_ix x (n := 3) (by decide) with h | h | ⟨j, hj, rfl⟩
  · exact sp_To_typeN hS hC hI (Or.inl h)
  · exact sp_To_typeN hS hC hI (Or.inr h)
  · rcases (show j = 0 ∨ j = 1 ∨ j = 2 by omega) with rfl | rfl | rfl
    · exact sp_To_type0 hS hC hI hc
    · exact sp_To_type1 hS hC hI hc
    · exact sp_To_type2 hS hC hI hc
set_option maxHeartbeats 4000000 in
set_option maxRecDepth 100000 in
theorem sp_To_wipe0 {G : mx_G} {d : Nat} {S : List mx_Sh} {D : mx_Mem} {σ : sg} (hS : SH S) (hC : CI D σ) (hI : SI σ) : EV G (d + 1) m_To_wipe 0 (mx_lc0 m_To_wipe [.ref 0, .int (nI 0)]) [] S D S (PC D (sg_up σ 0 []) (nI (σ.1 0).length)) := by
  obtain ⟨hz0, hz1, hz2, ⟨hL3, hL7, hL11⟩, ⟨hK5, hK9⟩, ⟨hT13, hT19⟩, hR25, hM28, hF36⟩ := id hS
  obtain ⟨hf0, hf1, hf2, hf3, hf4⟩ := id hF36
  have hl10 := hI.2.2.2.2.2.1
  obtain ⟨hLa, hLb⟩ := id hL3
  show EV _ _ _ _ [some (.ref 0), some (.int (nI 0))] [] _ _ _ _
  refine EV.iload_n d_To_wipe_0 rfl ?_
  refine EV.if_ltN (tgt := 9) d_To_wipe_1 rfl (by decide) (by decide) ?_
  refine EV.iload_n d_To_wipe_4 rfl ?_
  refine EV.iconst (v := nI 3) d_To_wipe_5 (by decide) ?_
  refine EV.icmp_ltN (tgt := 13) d_To_wipe_6 (by decide) rfl rfl (by omega) (by omega) (fun h6 => ?_) (fun h6 => ?_)
  · refine EV.aload_n d_To_wipe_13 rfl ?_
    refine EV.getR fl_To_11 d_To_wipe_14 (by first | assumption | rfl) rfl ?_
    refine EV.iload_n d_To_wipe_17 rfl ?_
    refine EV.aaldN d_To_wipe_18 (by first | assumption | rfl) rfl rfl rfl (by decide) rfl ?_
    refine EV.V0 cv_To_72 d_To_wipe_19 (by first | assumption | rfl) (sp_Li_clear hL3 hC.1.1) ⟨Nat.le_refl _, Nat.le_refl _⟩ rfl rfl (Nat.le_of_ble_eq_true rfl) (fun rv D1 hp => ?_)
    obtain ⟨q1, rfl, q2⟩ := hp
    exact EV.ireturn d_To_wipe_22 ⟨_, rfl, rfl⟩ ⟨rfl, CI_line (j := 0) hC hl10 (by decide) (fun q a _ => q1 q a) q2, fun q hq => q1 q (by omega)⟩
  · exfalso
    omega
set_option maxHeartbeats 4000000 in
set_option maxRecDepth 100000 in
theorem sp_To_wipe1 {G : mx_G} {d : Nat} {S : List mx_Sh} {D : mx_Mem} {σ : sg} (hS : SH S) (hC : CI D σ) (hI : SI σ) : EV G (d + 1) m_To_wipe 0 (mx_lc0 m_To_wipe [.ref 0, .int (nI 1)]) [] S D S (PC D (sg_up σ 1 []) (nI (σ.1 1).length)) := by
  obtain ⟨hz0, hz1, hz2, ⟨hL3, hL7, hL11⟩, ⟨hK5, hK9⟩, ⟨hT13, hT19⟩, hR25, hM28, hF36⟩ := id hS
  obtain ⟨hf0, hf1, hf2, hf3, hf4⟩ := id hF36
  have hl10 := hI.2.2.2.2.2.1
  obtain ⟨hLa, hLb⟩ := id hL7
  show EV _ _ _ _ [some (.ref 0), some (.int (nI 1))] [] _ _ _ _
  refine EV.iload_n d_To_wipe_0 rfl ?_
  refine EV.if_ltN (tgt := 9) d_To_wipe_1 rfl (by decide) (by decide) ?_
  refine EV.iload_n d_To_wipe_4 rfl ?_
  refine EV.iconst (v := nI 3) d_To_wipe_5 (by decide) ?_
  refine EV.icmp_ltN (tgt := 13) d_To_wipe_6 (by decide) rfl rfl (by omega) (by omega) (fun h6 => ?_) (fun h6 => ?_)
  · refine EV.aload_n d_To_wipe_13 rfl ?_
    refine EV.getR fl_To_11 d_To_wipe_14 (by first | assumption | rfl) rfl ?_
    refine EV.iload_n d_To_wipe_17 rfl ?_
    refine EV.aaldN d_To_wipe_18 (by first | assumption | rfl) rfl rfl rfl (by decide) rfl ?_
    refine EV.V0 cv_To_72 d_To_wipe_19 (by first | assumption | rfl) (sp_Li_clear hL7 hC.1.2.1) ⟨Nat.le_refl _, Nat.le_refl _⟩ rfl rfl (Nat.le_of_ble_eq_true rfl) (fun rv D1 hp => ?_)
    obtain ⟨q1, rfl, q2⟩ := hp
    exact EV.ireturn d_To_wipe_22 ⟨_, rfl, rfl⟩ ⟨rfl, CI_line (j := 1) hC hl10 (by decide) (fun q a _ => q1 q a) q2, fun q hq => q1 q (by omega)⟩
  · exfalso
    omega
set_option maxHeartbeats 4000000 in
set_option maxRecDepth 100000 in
theorem sp_To_wipe2 {G : mx_G} {d : Nat} {S : List mx_Sh} {D : mx_Mem} {σ : sg} (hS : SH S) (hC : CI D σ) (hI : SI σ) : EV G (d + 1) m_To_wipe 0 (mx_lc0 m_To_wipe [.ref 0, .int (nI 2)]) [] S D S (PC D (sg_up σ 2 []) (nI (σ.1 2).length)) := by
  obtain ⟨hz0, hz1, hz2, ⟨hL3, hL7, hL11⟩, ⟨hK5, hK9⟩, ⟨hT13, hT19⟩, hR25, hM28, hF36⟩ := id hS
  obtain ⟨hf0, hf1, hf2, hf3, hf4⟩ := id hF36
  have hl10 := hI.2.2.2.2.2.1
  obtain ⟨hLa, hLb⟩ := id hL11
  show EV _ _ _ _ [some (.ref 0), some (.int (nI 2))] [] _ _ _ _
  refine EV.iload_n d_To_wipe_0 rfl ?_
  refine EV.if_ltN (tgt := 9) d_To_wipe_1 rfl (by decide) (by decide) ?_
  refine EV.iload_n d_To_wipe_4 rfl ?_
  refine EV.iconst (v := nI 3) d_To_wipe_5 (by decide) ?_
  refine EV.icmp_ltN (tgt := 13) d_To_wipe_6 (by decide) rfl rfl (by omega) (by omega) (fun h6 => ?_) (fun h6 => ?_)
  · refine EV.aload_n d_To_wipe_13 rfl ?_
    refine EV.getR fl_To_11 d_To_wipe_14 (by first | assumption | rfl) rfl ?_
    refine EV.iload_n d_To_wipe_17 rfl ?_
    refine EV.aaldN d_To_wipe_18 (by first | assumption | rfl) rfl rfl rfl (by decide) rfl ?_
    refine EV.V0 cv_To_72 d_To_wipe_19 (by first | assumption | rfl) (sp_Li_clear hL11 hC.1.2.2) ⟨Nat.le_refl _, Nat.le_refl _⟩ rfl rfl (Nat.le_of_ble_eq_true rfl) (fun rv D1 hp => ?_)
    obtain ⟨q1, rfl, q2⟩ := hp
    exact EV.ireturn d_To_wipe_22 ⟨_, rfl, rfl⟩ ⟨rfl, CI_line (j := 2) hC hl10 (by decide) (fun q a _ => q1 q a) q2, fun q hq => q1 q (by omega)⟩
  · exfalso
    omega
set_option maxHeartbeats 4000000 in
set_option maxRecDepth 100000 in
theorem sp_To_wipeN {G : mx_G} {d : Nat} {S : List mx_Sh} {D : mx_Mem} {σ : sg} (hS : SH S) (hC : CI D σ) (hI : SI σ) {x : Int32} (hx : x < 0 ∨ nI 3 ≤ x) : EV G (d + 1) m_To_wipe 0 (mx_lc0 m_To_wipe [.ref 0, .int x]) [] S D S (PC D σ (-1)) := by
  show EV _ _ _ _ [some (.ref 0), some (.int x)] [] _ _ _ _
  refine EV.iload_n d_To_wipe_0 rfl ?_
  refine EV.if_lt (tgt := 9) d_To_wipe_1 (by decide) (fun h1 => ?_) (fun h1 => ?_)
  · refine EV.iconst (v := (-1)) d_To_wipe_9 (by decide) ?_
    refine EV.goto (tgt := 22) d_To_wipe_10 (by decide) ?_
    exact EV.ireturn d_To_wipe_22 ⟨_, rfl, rfl⟩ ⟨rfl, hC, fun _ _ => rfl⟩
  · refine EV.iload_n d_To_wipe_4 rfl ?_
    refine EV.iconst (v := nI 3) d_To_wipe_5 (by decide) ?_
    refine EV.icmp_lt (tgt := 13) d_To_wipe_6 (by decide) (fun h6 => ?_) (fun h6 => ?_)
    · exfalso
      exact hx.elim h1 (fun h => absurd h6 (Int32.not_lt.mpr h))
    · refine EV.iconst (v := (-1)) d_To_wipe_9 (by decide) ?_
      refine EV.goto (tgt := 22) d_To_wipe_10 (by decide) ?_
      exact EV.ireturn d_To_wipe_22 ⟨_, rfl, rfl⟩ ⟨rfl, hC, fun _ _ => rfl⟩
set_option maxHeartbeats 4000000 in
set_option maxRecDepth 100000 in
theorem cl_wipe {G : mx_G} {d : Nat} {S : List mx_Sh} {D : mx_Mem} {σ : sg} (hS : SH S) (hC : CI D σ) (hI : SI σ) {x : Int32} : EV G (d + 1) m_To_wipe 0 (mx_lc0 m_To_wipe [.ref 0, .int x]) [] S D S (PC D (op_wipe σ x).2 (op_wipe σ x).1) := by
  rcases pk_ix x (n := 3) (by decide) with h | h | ⟨j, hj, rfl⟩
  · have e : op_wipe σ x = (-1, σ) := by unfold op_wipe; rw [ln3_n (Or.inl h)]
    rw [e]
    exact sp_To_wipeN hS hC hI (Or.inl h)
  · have e : op_wipe σ x = (-1, σ) := by unfold op_wipe; rw [ln3_n (Or.inr h)]
    rw [e]
    exact sp_To_wipeN hS hC hI (Or.inr h)
  · rcases (show j = 0 ∨ j = 1 ∨ j = 2 by omega) with rfl | rfl | rfl
    · exact sp_To_wipe0 hS hC hI
    · exact sp_To_wipe1 hS hC hI
    · exact sp_To_wipe2 hS hC hI
set_option maxHeartbeats 4000000 in
set_option maxRecDepth 100000 in
theorem cl_entries {G : mx_G} {d : Nat} {S : List mx_Sh} {D : mx_Mem} {σ : sg} (hS : SH S) (hC : CI D σ) (hI : SI σ) : EV G d m_To_entries 0 (mx_lc0 m_To_entries [.ref 0]) [] S D S (PC D σ (nI σ.2.1.length)) := by
  obtain ⟨hz0, hz1, hz2, ⟨hL3, hL7, hL11⟩, ⟨hK5, hK9⟩, ⟨hT13, hT19⟩, hR25, hM28, hF36⟩ := id hS
  obtain ⟨hf0, hf1, hf2, hf3, hf4⟩ := id hF36
  have hl10 := hI.2.2.2.2.2.1
  show EV _ _ _ _ [some (.ref 0)] [] _ _ _ _
  refine EV.aload_n d_To_entries_0 rfl ?_
  refine EV.getR fl_To_28 d_To_entries_1 (by first | assumption | rfl) rfl ?_
  refine EV.getI fl_To_87 d_To_entries_4 hT13.1 rfl ?_
  refine EV.top hC.2.1.1 ?_
  exact EV.ireturn d_To_entries_7 ⟨_, rfl, rfl⟩ ⟨rfl, hC, fun _ _ => rfl⟩
set_option maxHeartbeats 4000000 in
set_option maxRecDepth 100000 in
theorem cl_filed {G : mx_G} {d : Nat} {S : List mx_Sh} {D : mx_Mem} {σ : sg} (hS : SH S) (hC : CI D σ) (hI : SI σ) : EV G d m_To_filed 0 (mx_lc0 m_To_filed [.ref 0]) [] S D S (PC D σ (nI σ.2.2.2.1.length)) := by
  obtain ⟨hz0, hz1, hz2, ⟨hL3, hL7, hL11⟩, ⟨hK5, hK9⟩, ⟨hT13, hT19⟩, hR25, hM28, hF36⟩ := id hS
  obtain ⟨hf0, hf1, hf2, hf3, hf4⟩ := id hF36
  have hl10 := hI.2.2.2.2.2.1
  show EV _ _ _ _ [some (.ref 0)] [] _ _ _ _
  refine EV.aload_n d_To_filed_0 rfl ?_
  refine EV.getR fl_To_54 d_To_filed_1 (by first | assumption | rfl) rfl ?_
  refine EV.getI fl_To_138 d_To_filed_4 (by first | assumption | rfl) rfl ?_
  refine EV.top hC.2.2.2.1.1 ?_
  exact EV.ireturn d_To_filed_7 ⟨_, rfl, rfl⟩ ⟨rfl, hC, fun _ _ => rfl⟩
theorem CI_form {D D' : mx_Mem} {σ : sg} {x : Nat} {b1 b2 : Bool} (h : CI D σ) (hl : σ.2.2.2.1.length ≤ 10) (hF : ∀ k, ¬ k = 28 → D' k = D k) (hm : D' 28 = upd (upd (upd (D 28) 7 (nI x)) 8 (bI b1)) 9 (bI b2)) : CI D' (σ.1, σ.2.1, (x, b1, b2), σ.2.2.2) := by
  obtain ⟨⟨h1, h2, h3⟩, h4, -, h8, h9⟩ := h
  exact ⟨⟨LN_kept h1 (hF _ (by omega)) (hF _ (by omega)), LN_kept h2 (hF _ (by omega)) (hF _ (by omega)), LN_kept h3 (hF _ (by omega)) (hF _ (by omega))⟩, TBw_kept h4 (fun j hj => hF _ (by omega)), ⟨by rw [hm]; simp [upd], by rw [hm]; simp [upd], by rw [hm]; simp [upd]⟩, FO_kept h8 hl (by rw [hF _ (by omega)]) (hF _ (by omega)) (fun i hi => ⟨hF _ (by omega), hF _ (by omega)⟩), by rw [hF _ (by omega)]; exact h9⟩
set_option maxHeartbeats 4000000 in
set_option maxRecDepth 100000 in
theorem cl_form {G : mx_G} {d : Nat} {S : List mx_Sh} {D : mx_Mem} {σ : sg} (hS : SH S) (hC : CI D σ) (hI : SI σ) {x : Int32} {b1 b2 : Bool} : EV G (d + 1) m_To_form 0 (mx_lc0 m_To_form [.ref 0, .int x, .int (bI b1), .int (bI b2)]) [] S D S (PC D (op_form σ x b1 b2).2 (op_form σ x b1 b2).1) := by
  obtain ⟨hz0, hz1, hz2, ⟨hL3, hL7, hL11⟩, ⟨hK5, hK9⟩, ⟨hT13, hT19⟩, hR25, hM28, hF36⟩ := id hS
  obtain ⟨hf0, hf1, hf2, hf3, hf4⟩ := id hF36
  have hl10 := hI.2.2.2.2.2.1
  show EV _ _ _ _ [some (.ref 0), some (.int x), some (.int (bI b1)), some (.int (bI b2))] [] _ _ _ _
  refine EV.iload_n d_To_form_0 rfl ?_
  refine EV.iconst (v := nI 1) d_To_form_1 (by decide) ?_
  refine EV.icmp_lt (tgt := 10) d_To_form_2 (by decide) (fun h2 => ?_) (fun h2 => ?_)
  · have e : op_form σ x b1 b2 = (nI 0, σ) := by unfold op_form; rw [if_pos (Or.inl h2)]
    rw [e]
    refine EV.iconst (v := nI 0) d_To_form_10 (by decide) ?_
    exact EV.ireturn d_To_form_11 ⟨_, rfl, rfl⟩ ⟨rfl, hC, fun _ _ => rfl⟩
  · refine EV.iload_n d_To_form_5 rfl ?_
    refine EV.iconst (v := nI 4) d_To_form_6 (by decide) ?_
    refine EV.icmp_le (tgt := 12) d_To_form_7 (by decide) (fun h7 => ?_) (fun h7 => ?_)
    · have e : op_form σ x b1 b2 = (nI 1, (σ.1, σ.2.1, (x.toNatClampNeg, b1, b2), σ.2.2.2)) := by unfold op_form; rw [if_neg (fun h => h.elim h2 (fun h => Int32.not_lt.mpr h7 h))]
      rw [e]
      obtain ⟨j, hj, rfl⟩ : ∃ j : Nat, j < 5 ∧ x = nI j := by
        rcases pk_ix x (n := 5) (by decide) with h | h | ⟨j, hj, rfl⟩
        · exact absurd (Int32.lt_trans h (by decide)) h2
        · exact absurd (Int32.le_trans h h7) (by decide)
        · exact ⟨j, hj, rfl⟩
      rw [nI_clamp (by omega)]
      refine EV.aload_n d_To_form_12 rfl ?_
      refine EV.getR fl_To_47 d_To_form_13 (by first | assumption | rfl) rfl ?_
      refine EV.iload_n d_To_form_16 rfl ?_
      refine EV.iload_n d_To_form_17 rfl ?_
      refine EV.iload_n d_To_form_18 rfl ?_
      refine EV.V3 cv_To_111 d_To_form_19 hM28.1 (sp_Km_shape hM28) ⟨Nat.le_refl _, Nat.le_refl _⟩ rfl rfl (Nat.le_of_ble_eq_true rfl) (fun rv D1 hp => ?_)
      obtain ⟨rfl, q1, q2⟩ := hp
      refine EV.iconst (v := nI 1) d_To_form_22 (by decide) ?_
      exact EV.ireturn d_To_form_23 ⟨_, rfl, rfl⟩ ⟨rfl, CI_form hC hl10 q1 q2, fun q hq => q1 q (by omega)⟩
    · have e : op_form σ x b1 b2 = (nI 0, σ) := by unfold op_form; rw [if_pos (Or.inr (Int32.not_le.mp h7))]
      rw [e]
      refine EV.iconst (v := nI 0) d_To_form_10 (by decide) ?_
      exact EV.ireturn d_To_form_11 ⟨_, rfl, rfl⟩ ⟨rfl, hC, fun _ _ => rfl⟩
