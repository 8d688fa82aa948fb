theorem mx_oi : Cond.instanceMethod Lib.objectInit ∈ mx_gw ∧ Cond.code Lib.objectInit ⟨#[0xb1]⟩ 1 none ∈ mx_gw := by decide +kernel
theorem mx_mm : Cond.static Lib.Math.min.name ∈ mx_gw ∧ Cond.initialized "java/lang/Math" ∈ mx_gw ∧ Cond.code Lib.Math.min.name Lib.Math.min.code 2 (some .int) ∈ mx_gw := by decide +kernel
theorem mx_ac : Cond.native arraycopyName ∈ mx_gw ∧ Cond.static arraycopyName ∈ mx_gw ∧ Cond.initialized "java/lang/System" ∈ mx_gw := by decide +kernel
/-- a truth value as a number -/
def bI (b : Bool) : Int32 := nI (if b then 1 else 0)
theorem bI_t {b : Bool} (h : b = true) : bI b = nI 1 := by rw [h]; rfl
theorem bI_f {b : Bool} (h : b = false) : bI b = nI 0 := by rw [h]; rfl
theorem bI_nr (b : Bool) : narrow .boolean (.int (bI b)) = .int (bI b) := by cases b <;> rfl
/-- the answer is x, the memory as it was -/
abbrev RI (x : Int32) (D : mx_Mem) : Option Value → mx_Mem → Prop := fun rv D' => rv = some (.int x) ∧ D' = D
theorem nI_or {a c k : Nat} (ha : a < 2 ^ k) (hc : a + c * 2 ^ k < 2 ^ 31) : nI a ||| nI (c * 2 ^ k) = nI (a + c * 2 ^ k) := by
  have h1 : a ||| c * 2 ^ k = a + c * 2 ^ k := by
    have := Nat.two_pow_add_eq_or_of_lt ha c
    rw [Nat.mul_comm (2 ^ k) c] at this
    rw [Nat.or_comm, ← this, Nat.add_comm]
  apply Int32.toBitVec_inj.mp
  rw [Int32.toBitVec_or]
  apply BitVec.eq_of_toNat_eq
  rw [BitVec.toNat_or, pk_tn (by omega), pk_tn (by omega), pk_tn (by omega), h1]
set_option maxHeartbeats 4000000 in
set_option maxRecDepth 100000 in
theorem sp_To_isLetter {G : mx_G} {d : Nat} {S : List mx_Sh} {D : mx_Mem} {c : Nat} (hc : c < 2 ^ 31) : EV G d m_To_isLetter 0 (mx_lc0 m_To_isLetter [.int (nI c)]) [] S D S (RI (bI (ps_letter c)) D) := by
  show EV _ _ _ _ [some (.int (nI c))] [] _ _ _ _
  refine EV.iload_n d_To_isLetter_0 rfl ?_
  refine EV.bipush (v := nI 97) d_To_isLetter_1 (by decide) ?_
  refine EV.icmp_ltN (tgt := 12) d_To_isLetter_3 (by decide) rfl rfl (by omega) (by omega) (fun h3 => ?_) (fun h3 => ?_)
  · refine EV.iload_n d_To_isLetter_12 rfl ?_
    refine EV.bipush (v := nI 65) d_To_isLetter_13 (by decide) ?_
    refine EV.icmp_ltN (tgt := 28) d_To_isLetter_15 (by decide) rfl rfl (by omega) (by omega) (fun h15 => ?_) (fun h15 => ?_)
    · refine EV.iconst (v := nI 0) d_To_isLetter_28 (by decide) ?_
      exact EV.ireturn d_To_isLetter_29 ⟨_, rfl, rfl⟩ ⟨by first | (exfalso; omega) | rw [bI_t (by simp [ps_letter]; omega)] | rw [bI_f (by simp [ps_letter]; omega)], rfl⟩
    · refine EV.iload_n d_To_isLetter_18 rfl ?_
      refine EV.bipush (v := nI 72) d_To_isLetter_19 (by decide) ?_
      refine EV.icmp_gtN (tgt := 28) d_To_isLetter_21 (by decide) rfl rfl (by omega) (by omega) (fun h21 => ?_) (fun h21 => ?_)
      · refine EV.iconst (v := nI 0) d_To_isLetter_28 (by decide) ?_
        exact EV.ireturn d_To_isLetter_29 ⟨_, rfl, rfl⟩ ⟨by first | (exfalso; omega) | rw [bI_t (by simp [ps_letter]; omega)] | rw [bI_f (by simp [ps_letter]; omega)], rfl⟩
      · refine EV.iconst (v := nI 1) d_To_isLetter_24 (by decide) ?_
        refine EV.goto (tgt := 29) d_To_isLetter_25 (by decide) ?_
        exact EV.ireturn d_To_isLetter_29 ⟨_, rfl, rfl⟩ ⟨by first | (exfalso; omega) | rw [bI_t (by simp [ps_letter]; omega)] | rw [bI_f (by simp [ps_letter]; omega)], rfl⟩
  · refine EV.iload_n d_To_isLetter_6 rfl ?_
    refine EV.bipush (v := nI 104) d_To_isLetter_7 (by decide) ?_
    refine EV.icmp_leN (tgt := 24) d_To_isLetter_9 (by decide) rfl rfl (by omega) (by omega) (fun h9 => ?_) (fun h9 => ?_)
    · refine EV.iconst (v := nI 1) d_To_isLetter_24 (by decide) ?_
      refine EV.goto (tgt := 29) d_To_isLetter_25 (by decide) ?_
      exact EV.ireturn d_To_isLetter_29 ⟨_, rfl, rfl⟩ ⟨by first | (exfalso; omega) | rw [bI_t (by simp [ps_letter]; omega)] | rw [bI_f (by simp [ps_letter]; omega)], rfl⟩
    · refine EV.iload_n d_To_isLetter_12 rfl ?_
      refine EV.bipush (v := nI 65) d_To_isLetter_13 (by decide) ?_
      refine EV.icmp_ltN (tgt := 28) d_To_isLetter_15 (by decide) rfl rfl (by omega) (by omega) (fun h15 => ?_) (fun h15 => ?_)
      · refine EV.iconst (v := nI 0) d_To_isLetter_28 (by decide) ?_
        exact EV.ireturn d_To_isLetter_29 ⟨_, rfl, rfl⟩ ⟨by first | (exfalso; omega) | rw [bI_t (by simp [ps_letter]; omega)] | rw [bI_f (by simp [ps_letter]; omega)], rfl⟩
      · refine EV.iload_n d_To_isLetter_18 rfl ?_
        refine EV.bipush (v := nI 72) d_To_isLetter_19 (by decide) ?_
        refine EV.icmp_gtN (tgt := 28) d_To_isLetter_21 (by decide) rfl rfl (by omega) (by omega) (fun h21 => ?_) (fun h21 => ?_)
        · refine EV.iconst (v := nI 0) d_To_isLetter_28 (by decide) ?_
          exact EV.ireturn d_To_isLetter_29 ⟨_, rfl, rfl⟩ ⟨by first | (exfalso; omega) | rw [bI_t (by simp [ps_letter]; omega)] | rw [bI_f (by simp [ps_letter]; omega)], rfl⟩
        · refine EV.iconst (v := nI 1) d_To_isLetter_24 (by decide) ?_
          refine EV.goto (tgt := 29) d_To_isLetter_25 (by decide) ?_
          exact EV.ireturn d_To_isLetter_29 ⟨_, rfl, rfl⟩ ⟨by first | (exfalso; omega) | rw [bI_t (by simp [ps_letter]; omega)] | rw [bI_f (by simp [ps_letter]; omega)], rfl⟩
set_option maxHeartbeats 4000000 in
set_option maxRecDepth 100000 in
theorem sp_To_isVariable {G : mx_G} {d : Nat} {S : List mx_Sh} {D : mx_Mem} {c : Nat} (hc : c < 2 ^ 31) : EV G d m_To_isVariable 0 (mx_lc0 m_To_isVariable [.int (nI c)]) [] S D S (RI (bI (ps_var c)) D) := by
  show EV _ _ _ _ [some (.int (nI c))] [] _ _ _ _
  refine EV.iload_n d_To_isVariable_0 rfl ?_
  refine EV.bipush (v := nI 32) d_To_isVariable_1 (by decide) ?_
  refine EV.icmp_eqN (tgt := 12) d_To_isVariable_3 (by decide) rfl rfl (by omega) (by omega) (fun h3 => ?_) (fun h3 => ?_)
  · refine EV.iconst (v := nI 1) d_To_isVariable_12 (by decide) ?_
    refine EV.goto (tgt := 17) d_To_isVariable_13 (by decide) ?_
    exact EV.ireturn d_To_isVariable_17 ⟨_, rfl, rfl⟩ ⟨by first | (exfalso; omega) | rw [bI_t (by simp [ps_var]; omega)] | rw [bI_f (by simp [ps_var]; omega)], rfl⟩
  · refine EV.iload_n d_To_isVariable_6 rfl ?_
    refine EV.bipush (v := nI 45) d_To_isVariable_7 (by decide) ?_
    refine EV.icmp_neN (tgt := 16) d_To_isVariable_9 (by decide) rfl rfl (by omega) (by omega) (fun h9 => ?_) (fun h9 => ?_)
    · refine EV.iconst (v := nI 0) d_To_isVariable_16 (by decide) ?_
      exact EV.ireturn d_To_isVariable_17 ⟨_, rfl, rfl⟩ ⟨by first | (exfalso; omega) | rw [bI_t (by simp [ps_var]; omega)] | rw [bI_f (by simp [ps_var]; omega)], rfl⟩
    · refine EV.iconst (v := nI 1) d_To_isVariable_12 (by decide) ?_
      refine EV.goto (tgt := 17) d_To_isVariable_13 (by decide) ?_
      exact EV.ireturn d_To_isVariable_17 ⟨_, rfl, rfl⟩ ⟨by first | (exfalso; omega) | rw [bI_t (by simp [ps_var]; omega)] | rw [bI_f (by simp [ps_var]; omega)], rfl⟩
set_option maxHeartbeats 4000000 in
set_option maxRecDepth 100000 in
theorem sp_To_isMark {G : mx_G} {d : Nat} {S : List mx_Sh} {D : mx_Mem} {c : Nat} (hc : c < 2 ^ 31) : EV G d m_To_isMark 0 (mx_lc0 m_To_isMark [.int (nI c)]) [] S D S (RI (bI (ps_mark c)) D) := by
  show EV _ _ _ _ [some (.int (nI c))] [] _ _ _ _
  refine EV.iload_n d_To_isMark_0 rfl ?_
  refine EV.bipush (v := nI 49) d_To_isMark_1 (by decide) ?_
  refine EV.icmp_ltN (tgt := 16) d_To_isMark_3 (by decide) rfl rfl (by omega) (by omega) (fun h3 => ?_) (fun h3 => ?_)
  · refine EV.iconst (v := nI 0) d_To_isMark_16 (by decide) ?_
    exact EV.ireturn d_To_isMark_17 ⟨_, rfl, rfl⟩ ⟨by first | (exfalso; omega) | rw [bI_t (by simp [ps_mark]; omega)] | rw [bI_f (by simp [ps_mark]; omega)], rfl⟩
  · refine EV.iload_n d_To_isMark_6 rfl ?_
    refine EV.bipush (v := nI 52) d_To_isMark_7 (by decide) ?_
    refine EV.icmp_gtN (tgt := 16) d_To_isMark_9 (by decide) rfl rfl (by omega) (by omega) (fun h9 => ?_) (fun h9 => ?_)
    · refine EV.iconst (v := nI 0) d_To_isMark_16 (by decide) ?_
      exact EV.ireturn d_To_isMark_17 ⟨_, rfl, rfl⟩ ⟨by first | (exfalso; omega) | rw [bI_t (by simp [ps_mark]; omega)] | rw [bI_f (by simp [ps_mark]; omega)], rfl⟩
    · refine EV.iconst (v := nI 1) d_To_isMark_12 (by decide) ?_
      refine EV.goto (tgt := 17) d_To_isMark_13 (by decide) ?_
      exact EV.ireturn d_To_isMark_17 ⟨_, rfl, rfl⟩ ⟨by first | (exfalso; omega) | rw [bI_t (by simp [ps_mark]; omega)] | rw [bI_f (by simp [ps_mark]; omega)], rfl⟩
set_option maxHeartbeats 4000000 in
set_option maxRecDepth 100000 in
theorem sp_Mo_isLetter {G : mx_G} {d : Nat} {S : List mx_Sh} {D : mx_Mem} {c : Nat} (hc : c < 2 ^ 31) : EV G d m_Mo_isLetter 0 (mx_lc0 m_Mo_isLetter [.int (nI c)]) [] S D S (RI (bI (ps_letter c)) D) := by
  show EV _ _ _ _ [some (.int (nI c))] [] _ _ _ _
  refine EV.iload_n d_Mo_isLetter_0 rfl ?_
  refine EV.bipush (v := nI 97) d_Mo_isLetter_1 (by decide) ?_
  refine EV.icmp_ltN (tgt := 12) d_Mo_isLetter_3 (by decide) rfl rfl (by omega) (by omega) (fun h3 => ?_) (fun h3 => ?_)
  · refine EV.iload_n d_Mo_isLetter_12 rfl ?_
    refine EV.bipush (v := nI 65) d_Mo_isLetter_13 (by decide) ?_
    refine EV.icmp_ltN (tgt := 28) d_Mo_isLetter_15 (by decide) rfl rfl (by omega) (by omega) (fun h15 => ?_) (fun h15 => ?_)
    · refine EV.iconst (v := nI 0) d_Mo_isLetter_28 (by decide) ?_
      exact EV.ireturn d_Mo_isLetter_29 ⟨_, rfl, rfl⟩ ⟨by first | (exfalso; omega) | rw [bI_t (by simp [ps_letter]; omega)] | rw [bI_f (by simp [ps_letter]; omega)], rfl⟩
    · refine EV.iload_n d_Mo_isLetter_18 rfl ?_
      refine EV.bipush (v := nI 72) d_Mo_isLetter_19 (by decide) ?_
      refine EV.icmp_gtN (tgt := 28) d_Mo_isLetter_21 (by decide) rfl rfl (by omega) (by omega) (fun h21 => ?_) (fun h21 => ?_)
      · refine EV.iconst (v := nI 0) d_Mo_isLetter_28 (by decide) ?_
        exact EV.ireturn d_Mo_isLetter_29 ⟨_, rfl, rfl⟩ ⟨by first | (exfalso; omega) | rw [bI_t (by simp [ps_letter]; omega)] | rw [bI_f (by simp [ps_letter]; omega)], rfl⟩
      · refine EV.iconst (v := nI 1) d_Mo_isLetter_24 (by decide) ?_
        refine EV.goto (tgt := 29) d_Mo_isLetter_25 (by decide) ?_
        exact EV.ireturn d_Mo_isLetter_29 ⟨_, rfl, rfl⟩ ⟨by first | (exfalso; omega) | rw [bI_t (by simp [ps_letter]; omega)] | rw [bI_f (by simp [ps_letter]; omega)], rfl⟩
  · refine EV.iload_n d_Mo_isLetter_6 rfl ?_
    refine EV.bipush (v := nI 104) d_Mo_isLetter_7 (by decide) ?_
    refine EV.icmp_leN (tgt := 24) d_Mo_isLetter_9 (by decide) rfl rfl (by omega) (by omega) (fun h9 => ?_) (fun h9 => ?_)
    · refine EV.iconst (v := nI 1) d_Mo_isLetter_24 (by decide) ?_
      refine EV.goto (tgt := 29) d_Mo_isLetter_25 (by decide) ?_
      exact EV.ireturn d_Mo_isLetter_29 ⟨_, rfl, rfl⟩ ⟨by first | (exfalso; omega) | rw [bI_t (by simp [ps_letter]; omega)] | rw [bI_f (by simp [ps_letter]; omega)], rfl⟩
    · refine EV.iload_n d_Mo_isLetter_12 rfl ?_
      refine EV.bipush (v := nI 65) d_Mo_isLetter_13 (by decide) ?_
      refine EV.icmp_ltN (tgt := 28) d_Mo_isLetter_15 (by decide) rfl rfl (by omega) (by omega) (fun h15 => ?_) (fun h15 => ?_)
      · refine EV.iconst (v := nI 0) d_Mo_isLetter_28 (by decide) ?_
        exact EV.ireturn d_Mo_isLetter_29 ⟨_, rfl, rfl⟩ ⟨by first | (exfalso; omega) | rw [bI_t (by simp [ps_letter]; omega)] | rw [bI_f (by simp [ps_letter]; omega)], rfl⟩
      · refine EV.iload_n d_Mo_isLetter_18 rfl ?_
        refine EV.bipush (v := nI 72) d_Mo_isLetter_19 (by decide) ?_
        refine EV.icmp_gtN (tgt := 28) d_Mo_isLetter_21 (by decide) rfl rfl (by omega) (by omega) (fun h21 => ?_) (fun h21 => ?_)
        · refine EV.iconst (v := nI 0) d_Mo_isLetter_28 (by decide) ?_
          exact EV.ireturn d_Mo_isLetter_29 ⟨_, rfl, rfl⟩ ⟨by first | (exfalso; omega) | rw [bI_t (by simp [ps_letter]; omega)] | rw [bI_f (by simp [ps_letter]; omega)], rfl⟩
        · refine EV.iconst (v := nI 1) d_Mo_isLetter_24 (by decide) ?_
          refine EV.goto (tgt := 29) d_Mo_isLetter_25 (by decide) ?_
          exact EV.ireturn d_Mo_isLetter_29 ⟨_, rfl, rfl⟩ ⟨by first | (exfalso; omega) | rw [bI_t (by simp [ps_letter]; omega)] | rw [bI_f (by simp [ps_letter]; omega)], rfl⟩
set_option maxHeartbeats 4000000 in
set_option maxRecDepth 100000 in
theorem sp_Mo_isMark {G : mx_G} {d : Nat} {S : List mx_Sh} {D : mx_Mem} {c : Nat} (hc : c < 2 ^ 31) : EV G d m_Mo_isMark 0 (mx_lc0 m_Mo_isMark [.int (nI c)]) [] S D S (RI (bI (ps_mark c)) D) := by
  show EV _ _ _ _ [some (.int (nI c))] [] _ _ _ _
  refine EV.iload_n d_Mo_isMark_0 rfl ?_
  refine EV.bipush (v := nI 49) d_Mo_isMark_1 (by decide) ?_
  refine EV.icmp_ltN (tgt := 16) d_Mo_isMark_3 (by decide) rfl rfl (by omega) (by omega) (fun h3 => ?_) (fun h3 => ?_)
  · refine EV.iconst (v := nI 0) d_Mo_isMark_16 (by decide) ?_
    exact EV.ireturn d_Mo_isMark_17 ⟨_, rfl, rfl⟩ ⟨by first | (exfalso; omega) | rw [bI_t (by simp [ps_mark]; omega)] | rw [bI_f (by simp [ps_mark]; omega)], rfl⟩
  · refine EV.iload_n d_Mo_isMark_6 rfl ?_
    refine EV.bipush (v := nI 52) d_Mo_isMark_7 (by decide) ?_
    refine EV.icmp_gtN (tgt := 16) d_Mo_isMark_9 (by decide) rfl rfl (by omega) (by omega) (fun h9 => ?_) (fun h9 => ?_)
    · refine EV.iconst (v := nI 0) d_Mo_isMark_16 (by decide) ?_
      exact EV.ireturn d_Mo_isMark_17 ⟨_, rfl, rfl⟩ ⟨by first | (exfalso; omega) | rw [bI_t (by simp [ps_mark]; omega)] | rw [bI_f (by simp [ps_mark]; omega)], rfl⟩
    · refine EV.iconst (v := nI 1) d_Mo_isMark_12 (by decide) ?_
      refine EV.goto (tgt := 17) d_Mo_isMark_13 (by decide) ?_
      exact EV.ireturn d_Mo_isMark_17 ⟨_, rfl, rfl⟩ ⟨by first | (exfalso; omega) | rw [bI_t (by simp [ps_mark]; omega)] | rw [bI_f (by simp [ps_mark]; omega)], rfl⟩
set_option maxHeartbeats 4000000 in
set_option maxRecDepth 100000 in
theorem sp_To_classOf {G : mx_G} {d : Nat} {S : List mx_Sh} {D : mx_Mem} {c : Nat} (hc : c < 2 ^ 31) : EV G d m_To_classOf 0 (mx_lc0 m_To_classOf [.int (nI c)]) [] S D S (RI (nI (ps_cls c)) D) := by
  show EV _ _ _ _ [some (.int (nI c))] [] _ _ _ _
  refine EV.iload_n d_To_classOf_0 rfl ?_
  refine EV.bipush (v := nI 50) d_To_classOf_1 (by decide) ?_
  refine EV.icmp_gtN (tgt := 10) d_To_classOf_3 (by decide) rfl rfl (by omega) (by omega) (fun h3 => ?_) (fun h3 => ?_)
  · refine EV.iconst (v := nI 2) d_To_classOf_10 (by decide) ?_
    exact EV.ireturn d_To_classOf_11 ⟨_, rfl, rfl⟩ ⟨by simp only [ps_cls]; split <;> first | rfl | omega, rfl⟩
  · refine EV.iconst (v := nI 1) d_To_classOf_6 (by decide) ?_
    refine EV.goto (tgt := 11) d_To_classOf_7 (by decide) ?_
    exact EV.ireturn d_To_classOf_11 ⟨_, rfl, rfl⟩ ⟨by simp only [ps_cls]; split <;> first | rfl | omega, rfl⟩
set_option maxHeartbeats 4000000 in
set_option maxRecDepth 100000 in
theorem sp_Mo_classOf {G : mx_G} {d : Nat} {S : List mx_Sh} {D : mx_Mem} {c : Nat} (hc : c < 2 ^ 31) : EV G d m_Mo_classOf 0 (mx_lc0 m_Mo_classOf [.int (nI c)]) [] S D S (RI (nI (ps_cls c)) D) := by
  show EV _ _ _ _ [some (.int (nI c))] [] _ _ _ _
  refine EV.iload_n d_Mo_classOf_0 rfl ?_
  refine EV.bipush (v := nI 51) d_Mo_classOf_1 (by decide) ?_
  refine EV.icmp_geN (tgt := 10) d_Mo_classOf_3 (by decide) rfl rfl (by omega) (by omega) (fun h3 => ?_) (fun h3 => ?_)
  · refine EV.iconst (v := nI 2) d_Mo_classOf_10 (by decide) ?_
    exact EV.ireturn d_Mo_classOf_11 ⟨_, rfl, rfl⟩ ⟨by simp only [ps_cls]; split <;> first | rfl | omega, rfl⟩
  · refine EV.iconst (v := nI 1) d_Mo_classOf_6 (by decide) ?_
    refine EV.goto (tgt := 11) d_Mo_classOf_7 (by decide) ?_
    exact EV.ireturn d_Mo_classOf_11 ⟨_, rfl, rfl⟩ ⟨by simp only [ps_cls]; split <;> first | rfl | omega, rfl⟩
/-- how many characters a string has -/
def ps_len (s : Nat) : Nat := if s < 256 then 1 else if s < 65536 then 2 else 3
set_option maxHeartbeats 4000000 in
set_option maxRecDepth 100000 in
theorem sp_To_lengthOf {G : mx_G} {d : Nat} {S : List mx_Sh} {D : mx_Mem} {s : Nat} (hs : s < 2 ^ 31) : EV G d m_To_lengthOf 0 (mx_lc0 m_To_lengthOf [.int (nI s)]) [] S D S (RI (nI (ps_len s)) D) := by
  show EV _ _ _ _ [some (.int (nI s))] [] _ _ _ _
  refine EV.iload_n d_To_lengthOf_0 rfl ?_
  refine EV.sipush (v := nI 256) d_To_lengthOf_1 (by decide) ?_
  refine EV.icmp_geN (tgt := 11) d_To_lengthOf_4 (by decide) rfl rfl (by omega) (by omega) (fun h4 => ?_) (fun h4 => ?_)
  · refine EV.iload_n d_To_lengthOf_11 rfl ?_
    refine EV.ldc (v := 65536) (mx_in 309 (by decide +kernel) (by decide +kernel)) d_To_lengthOf_12 ?_
    refine EV.icmp_geN (tgt := 21) d_To_lengthOf_14 (by decide) rfl (show (65536 : Int32) = nI 65536 by decide) (by omega) (by omega) (fun h14 => ?_) (fun h14 => ?_)
    · refine EV.iconst (v := nI 3) d_To_lengthOf_21 (by decide) ?_
      exact EV.ireturn d_To_lengthOf_22 ⟨_, rfl, rfl⟩ ⟨by simp only [ps_len]; split <;> first | rfl | omega | (split <;> first | rfl | omega), rfl⟩
    · refine EV.iconst (v := nI 2) d_To_lengthOf_17 (by decide) ?_
      refine EV.goto (tgt := 22) d_To_lengthOf_18 (by decide) ?_
      exact EV.ireturn d_To_lengthOf_22 ⟨_, rfl, rfl⟩ ⟨by simp only [ps_len]; split <;> first | rfl | omega | (split <;> first | rfl | omega), rfl⟩
  · refine EV.iconst (v := nI 1) d_To_lengthOf_7 (by decide) ?_
    refine EV.goto (tgt := 22) d_To_lengthOf_8 (by decide) ?_
    exact EV.ireturn d_To_lengthOf_22 ⟨_, rfl, rfl⟩ ⟨by simp only [ps_len]; split <;> first | rfl | omega | (split <;> first | rfl | omega), rfl⟩
set_option maxHeartbeats 4000000 in
set_option maxRecDepth 100000 in
theorem sp_To_joined {G : mx_G} {d : Nat} {S : List mx_Sh} {D : mx_Mem} {s c n : Nat} (hn : n = 1 ∨ n = 2) (hs : s < 256 ^ n) (hc : c < 128) : EV G d m_To_joined 0 (mx_lc0 m_To_joined [.int (nI s), .int (nI n), .int (nI c)]) [] S D S (RI (nI (s + c * 256 ^ n)) D) := by
  show EV _ _ _ _ [some (.int (nI s)), some (.int (nI n)), some (.int (nI c))] [] _ _ _ _
  refine EV.iload_n d_To_joined_0 rfl ?_
  refine EV.iload_n d_To_joined_1 rfl ?_
  refine EV.bipush (v := nI 8) d_To_joined_2 (by decide) ?_
  refine EV.iload_n d_To_joined_4 rfl ?_
  refine EV.imul d_To_joined_5 ?_
  refine EV.ishl d_To_joined_6 ?_
  refine EV.ior d_To_joined_7 ?_
  refine EV.ireturn d_To_joined_8 ⟨_, rfl, rfl⟩ ⟨?_, rfl⟩
  rcases hn with rfl | rfl
  · have e : nI c <<< (nI 8 * nI 1 &&& 31) = nI (c * 2 ^ 8) := pk_shlN (nI 8 * nI 1 &&& 31) 8 (by decide) (by omega)
    rw [e, nI_or (by omega) (by omega)]
  · have e : nI c <<< (nI 8 * nI 2 &&& 31) = nI (c * 2 ^ 16) := pk_shlN (nI 8 * nI 2 &&& 31) 16 (by decide) (by omega)
    rw [e, nI_or (by omega) (by omega)]
set_option maxHeartbeats 4000000 in
set_option maxRecDepth 100000 in
theorem sp_To_firstOf {G : mx_G} {d : Nat} {S : List mx_Sh} {D : mx_Mem} {s n : Nat} (hn : n = 1 ∨ n = 2 ∨ n = 3) (hs : s < 2 ^ 31) : EV G d m_To_firstOf 0 (mx_lc0 m_To_firstOf [.int (nI s), .int (nI n)]) [] S D S (RI (nI (s % 256 ^ n)) D) := by
  show EV _ _ _ _ [some (.int (nI s)), some (.int (nI n))] [] _ _ _ _
  refine EV.iload_n d_To_firstOf_0 rfl ?_
  refine EV.iconst (v := nI 1) d_To_firstOf_1 (by decide) ?_
  refine EV.bipush (v := nI 8) d_To_firstOf_2 (by decide) ?_
  refine EV.iload_n d_To_firstOf_4 rfl ?_
  refine EV.imul d_To_firstOf_5 ?_
  refine EV.ishl d_To_firstOf_6 ?_
  refine EV.iconst (v := nI 1) d_To_firstOf_7 (by decide) ?_
  refine EV.isub d_To_firstOf_8 ?_
  refine EV.iand d_To_firstOf_9 ?_
  refine EV.ireturn d_To_firstOf_10 ⟨_, rfl, rfl⟩ ⟨?_, rfl⟩
  rcases hn with rfl | rfl | rfl
  · rw [pk_andN (by omega) (m := nI 1 <<< (nI 8 * nI 1 &&& 31) - nI 1) 8 (by decide)]
  · rw [pk_andN (by omega) (m := nI 1 <<< (nI 8 * nI 2 &&& 31) - nI 1) 16 (by decide)]
  · rw [pk_andN (by omega) (m := nI 1 <<< (nI 8 * nI 3 &&& 31) - nI 1) 24 (by decide)]
set_option maxHeartbeats 4000000 in
set_option maxRecDepth 100000 in
theorem sp_To_characterOf {G : mx_G} {d : Nat} {S : List mx_Sh} {D : mx_Mem} {s n : Nat} (hn : n = 0 ∨ n = 1 ∨ n = 2) (hs : s < 2 ^ 31) : EV G d m_To_characterOf 0 (mx_lc0 m_To_characterOf [.int (nI s), .int (nI n)]) [] S D S (RI (nI (s / 256 ^ n % 256)) D) := by
  show EV _ _ _ _ [some (.int (nI s)), some (.int (nI n))] [] _ _ _ _
  refine EV.iload_n d_To_characterOf_0 rfl ?_
  refine EV.bipush (v := nI 8) d_To_characterOf_1 (by decide) ?_
  refine EV.iload_n d_To_characterOf_3 rfl ?_
  refine EV.imul d_To_characterOf_4 ?_
  refine EV.ishr d_To_characterOf_5 ?_
  refine EV.sipush (v := nI 255) d_To_characterOf_6 (by decide) ?_
  refine EV.iand d_To_characterOf_9 ?_
  refine EV.ireturn d_To_characterOf_10 ⟨_, rfl, rfl⟩ ⟨?_, rfl⟩
  rcases hn with rfl | rfl | rfl
  · rw [pk_shrN hs (nI 8 * nI 0 &&& 31) 0 (by decide), pk_andN (by omega) (m := nI 255) 8 (by decide)]
  · rw [pk_shrN hs (nI 8 * nI 1 &&& 31) 8 (by decide), pk_andN (by omega) (m := nI 255) 8 (by decide)]
  · rw [pk_shrN hs (nI 8 * nI 2 &&& 31) 16 (by decide), pk_andN (by omega) (m := nI 255) 8 (by decide)]
