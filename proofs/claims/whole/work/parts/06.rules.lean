section MXQ
variable {G : mx_G} {d : Nat} {M : mx_M} {pc : Nat} {lc : List (Option Value)} {st : List Value} {S S' : List mx_Sh} {D : mx_Mem} {Post : Option Value → mx_Mem → Prop}
theorem EV.ldc {idx : Nat} {v : Int32} (hl : Cond.constant M.1.cls idx v ∈ mx_gw) (hd : decode M.2.1 pc = .ok (.ldc idx, 2)) (k : EV G d M (pc + 2) lc (.int v :: st) S D S' Post) : EV G d M pc lc st S D S' Post :=
  ⟨k.1, fun p e R s m args below meth c H locs cells slots Q ls cx hH hS hlv h0 h1 h2 hr => by
    have K := k.2 p e R s m args below meth c H locs cells slots Q ls cx hH hS hlv h0 h1 h2 hr
    obtain ⟨hx, hb, -, -, hown, hts, -⟩ := cx
    exact lv_ldc hx hb hown (hts _ hl) hd K⟩
theorem EV.tIn {dflt lo hi : Int} {offs : Array Int} {len : Nat} {x : Int32} {off : Int} {tgt : Nat} (hd : decode M.2.1 pc = .ok (.tableswitch dflt lo hi offs, len)) (h1 : ¬ x.toInt < lo) (h2 : ¬ hi < x.toInt) (ho : offs[(x.toInt - lo).toNat]? = some off) (ht : (pc : Int) + off = (tgt : Int)) (k : EV G d M tgt lc st S D S' Post) : EV G d M pc lc (.int x :: st) S D S' Post :=
  EV.go (fun hx hb k => lv_tableIn hx hb hd h1 h2 ho ht k) k
theorem EV.tOut {dflt lo hi : Int} {offs : Array Int} {len : Nat} {x : Int32} {tgt : Nat} (hd : decode M.2.1 pc = .ok (.tableswitch dflt lo hi offs, len)) (h : x.toInt < lo ∨ hi < x.toInt) (ht : (pc : Int) + dflt = (tgt : Int)) (k : EV G d M tgt lc st S D S' Post) : EV G d M pc lc (.int x :: st) S D S' Post :=
  EV.go (fun hx hb k => lv_tableOut hx hb hd h ht k) k
theorem EV.lsw {dflt : Int} {ps : Array (Int × Int)} {len : Nat} {x : Int32} {off : Int} {tgt : Nat} (hd : decode M.2.1 pc = .ok (.lookupswitch dflt ps, len)) (hp : (ps.toList.zip (ps.toList.drop 1)).all (fun (a, next) => a.1 < next.1) = true) (ho : Op.lookupswitch.offset ps.toList dflt x.toInt = off) (ht : (pc : Int) + off = (tgt : Int)) (k : EV G d M tgt lc st S D S' Post) : EV G d M pc lc (.int x :: st) S D S' Post :=
  EV.go (fun hx hb k => lv_lookup hx hb hd hp ho ht k) k
theorem EV.iinc1 {n : Nat} {x : Int32} (hd : decode M.2.1 pc = .ok (.iinc n 1, 3)) (h : lc[n]? = some (some (.int x))) (hn : n < M.2.2.1) (k : EV G d M (pc + 3) (lc.set n (some (.int (x + 1)))) st S D S' Post) : EV G d M pc lc st S D S' Post := EV.iinc hd h (v := x + 1) rfl hn k
theorem EV.iincN {n i : Nat} (hd : decode M.2.1 pc = .ok (.iinc n 1, 3)) (h : lc[n]? = some (some (.int (nI i)))) (hn : n < M.2.2.1) (k : EV G d M (pc + 3) (lc.set n (some (.int (nI (i + 1))))) st S D S' Post) : EV G d M pc lc st S D S' Post := EV.iinc hd h (v := nI (i + 1)) (nI_1 i) hn k
theorem EV.iincM {n i : Nat} (hd : decode M.2.1 pc = .ok (.iinc n (-1), 3)) (h : lc[n]? = some (some (.int (nI (i + 1))))) (hn : n < M.2.2.1) (k : EV G d M (pc + 3) (lc.set n (some (.int (nI i)))) st S D S' Post) : EV G d M pc lc st S D S' Post := EV.iinc hd h (v := nI i) (pk_m1 i) hn k
theorem EV.ialdN {k t n j : Nat} {i : Int32} (hd : decode M.2.1 pc = .ok (.iaload, 1)) (hk : S[k]? = some (.inr (.inl (t, n)))) (ht : mx_ty[t]? = some .int) (hi : i = nI j) (hj : j < n) (hn : n < 2 ^ 31) (kk : EV G d M (pc + 1) lc (.int (D k j) :: st) S D S' Post) : EV G d M pc lc (.int i :: .ref k :: st) S D S' Post := by
  subst hi
  refine EV.iald hd hk ht (vp_in_nI hj hn) ?_
  rw [nI_clamp (by omega)]
  exact kk
theorem EV.caldN {k t n j : Nat} {i : Int32} (hd : decode M.2.1 pc = .ok (.caload, 1)) (hk : S[k]? = some (.inr (.inl (t, n)))) (ht : mx_ty[t]? = some .char) (hi : i = nI j) (hj : j < n) (hn : n < 2 ^ 31) (kk : EV G d M (pc + 1) lc (.int (D k j) :: st) S D S' Post) : EV G d M pc lc (.int i :: .ref k :: st) S D S' Post := by
  subst hi
  refine EV.cald hd hk ht (vp_in_nI hj hn) ?_
  rw [nI_clamp (by omega)]
  exact kk
theorem EV.iastN {k t n j : Nat} {i x : Int32} (hd : decode M.2.1 pc = .ok (.iastore, 1)) (hk : S[k]? = some (.inr (.inl (t, n)))) (ht : mx_ty[t]? = some .int) (hi : i = nI j) (hj : j < n) (hn : n < 2 ^ 31) (kk : EV G d M (pc + 1) lc st S (mx_w D k j x) S' Post) : EV G d M pc lc (.int x :: .int i :: .ref k :: st) S D S' Post := by
  subst hi
  refine EV.iast hd hk ht (vp_in_nI hj hn) ?_
  rw [nI_clamp (by omega)]
  exact kk
theorem EV.castN {k t n j : Nat} {i x : Int32} (hd : decode M.2.1 pc = .ok (.castore, 1)) (hk : S[k]? = some (.inr (.inl (t, n)))) (ht : mx_ty[t]? = some .char) (hi : i = nI j) (hj : j < n) (hn : n < 2 ^ 31) (hc : ∃ q : Nat, q < 65536 ∧ x = nI q) (kk : EV G d M (pc + 1) lc st S (mx_w D k j x) S' Post) : EV G d M pc lc (.int x :: .int i :: .ref k :: st) S D S' Post := by
  subst hi
  obtain ⟨q, hq, rfl⟩ := hc
  refine EV.cast hd hk ht (vp_in_nI hj hn) (pk_charN hq).1 ?_
  rw [nI_clamp (by omega)]
  exact kk
theorem EV.aaldN {k t r j : Nat} {i : Int32} {ty : FieldType} {rs : List (Option Nat)} (hd : decode M.2.1 pc = .ok (.aaload, 1)) (hk : S[k]? = some (.inr (.inr (t, rs)))) (ht : mx_ty[t]? = some ty) (hty : ty.isReference = true) (hi : i = nI j) (hj : j < 2 ^ 31) (hr : rs[j]? = some (some r)) (kk : EV G d M (pc + 1) lc (.ref r :: st) S D S' Post) : EV G d M pc lc (.int i :: .ref k :: st) S D S' Post := by
  subst hi
  refine EV.aald hd hk ht hty (nI_pos hj) ?_ kk
  rw [nI_clamp hj]
  exact hr
theorem EV.icmp_eqN {x y : Int32} {a b : Nat} {off : Int} {tgt : Nat} (hd : decode M.2.1 pc = .ok (.if_icmp .eq off, 3)) (ht : (pc : Int) + off = (tgt : Int)) (hx : x = nI a) (hy : y = nI b) (ha : a < 2 ^ 31) (hb : b < 2 ^ 31) (kt : a = b → EV G d M tgt lc st S D S' Post) (kf : ¬ a = b → EV G d M (pc + 3) lc st S D S' Post) : EV G d M pc lc (.int y :: .int x :: st) S D S' Post := by
  subst hx
  subst hy
  exact EV.icmp_eq hd ht (fun h => kt ((nI_eq ha hb).mp h)) (fun h => kf (fun e => h ((nI_eq ha hb).mpr e)))
theorem EV.icmp_neN {x y : Int32} {a b : Nat} {off : Int} {tgt : Nat} (hd : decode M.2.1 pc = .ok (.if_icmp .ne off, 3)) (ht : (pc : Int) + off = (tgt : Int)) (hx : x = nI a) (hy : y = nI b) (ha : a < 2 ^ 31) (hb : b < 2 ^ 31) (kt : ¬ a = b → EV G d M tgt lc st S D S' Post) (kf : a = b → EV G d M (pc + 3) lc st S D S' Post) : EV G d M pc lc (.int y :: .int x :: st) S D S' Post := by
  subst hx
  subst hy
  exact EV.icmp_ne hd ht (fun h => kt (fun e => h ((nI_eq ha hb).mpr e))) (fun h => kf ((nI_eq ha hb).mp h))
theorem EV.icmp_ltN {x y : Int32} {a b : Nat} {off : Int} {tgt : Nat} (hd : decode M.2.1 pc = .ok (.if_icmp .lt off, 3)) (ht : (pc : Int) + off = (tgt : Int)) (hx : x = nI a) (hy : y = nI b) (ha : a < 2 ^ 31) (hb : b < 2 ^ 31) (kt : a < b → EV G d M tgt lc st S D S' Post) (kf : b ≤ a → EV G d M (pc + 3) lc st S D S' Post) : EV G d M pc lc (.int y :: .int x :: st) S D S' Post := by
  subst hx
  subst hy
  exact EV.icmp_lt hd ht (fun h => kt ((nI_ltI ha hb).mp h)) (fun h => kf (Nat.not_lt.mp (fun e => h ((nI_ltI ha hb).mpr e))))
theorem EV.icmp_geN {x y : Int32} {a b : Nat} {off : Int} {tgt : Nat} (hd : decode M.2.1 pc = .ok (.if_icmp .ge off, 3)) (ht : (pc : Int) + off = (tgt : Int)) (hx : x = nI a) (hy : y = nI b) (ha : a < 2 ^ 31) (hb : b < 2 ^ 31) (kt : b ≤ a → EV G d M tgt lc st S D S' Post) (kf : a < b → EV G d M (pc + 3) lc st S D S' Post) : EV G d M pc lc (.int y :: .int x :: st) S D S' Post := by
  subst hx
  subst hy
  exact EV.icmp_ge hd ht (fun h => kt ((nI_leI hb ha).mp h)) (fun h => kf (Nat.not_le.mp (fun e => h ((nI_leI hb ha).mpr e))))
theorem EV.icmp_gtN {x y : Int32} {a b : Nat} {off : Int} {tgt : Nat} (hd : decode M.2.1 pc = .ok (.if_icmp .gt off, 3)) (ht : (pc : Int) + off = (tgt : Int)) (hx : x = nI a) (hy : y = nI b) (ha : a < 2 ^ 31) (hb : b < 2 ^ 31) (kt : b < a → EV G d M tgt lc st S D S' Post) (kf : a ≤ b → EV G d M (pc + 3) lc st S D S' Post) : EV G d M pc lc (.int y :: .int x :: st) S D S' Post := by
  subst hx
  subst hy
  exact EV.icmp_gt hd ht (fun h => kt ((nI_ltI hb ha).mp h)) (fun h => kf (Nat.not_lt.mp (fun e => h ((nI_ltI hb ha).mpr e))))
theorem EV.icmp_leN {x y : Int32} {a b : Nat} {off : Int} {tgt : Nat} (hd : decode M.2.1 pc = .ok (.if_icmp .le off, 3)) (ht : (pc : Int) + off = (tgt : Int)) (hx : x = nI a) (hy : y = nI b) (ha : a < 2 ^ 31) (hb : b < 2 ^ 31) (kt : a ≤ b → EV G d M tgt lc st S D S' Post) (kf : b < a → EV G d M (pc + 3) lc st S D S' Post) : EV G d M pc lc (.int y :: .int x :: st) S D S' Post := by
  subst hx
  subst hy
  exact EV.icmp_le hd ht (fun h => kt ((nI_leI ha hb).mp h)) (fun h => kf (Nat.not_le.mp (fun e => h ((nI_leI ha hb).mpr e))))
theorem EV.if_eqN {x : Int32} {a : Nat} {off : Int} {tgt : Nat} (hd : decode M.2.1 pc = .ok (.ifCond .eq off, 3)) (ht : (pc : Int) + off = (tgt : Int)) (hx : x = nI a) (ha : a < 2 ^ 31) (kt : a = 0 → EV G d M tgt lc st S D S' Post) (kf : ¬ a = 0 → EV G d M (pc + 3) lc st S D S' Post) : EV G d M pc lc (.int x :: st) S D S' Post := by
  subst hx
  exact EV.if_eq hd ht (fun h => kt ((nI_eq ha (b := 0) (by decide)).mp (h.trans nI_0.symm))) (fun h => kf (fun e => h (((nI_eq ha (b := 0) (by decide)).mpr e).trans nI_0)))
theorem EV.if_neN {x : Int32} {a : Nat} {off : Int} {tgt : Nat} (hd : decode M.2.1 pc = .ok (.ifCond .ne off, 3)) (ht : (pc : Int) + off = (tgt : Int)) (hx : x = nI a) (ha : a < 2 ^ 31) (kt : ¬ a = 0 → EV G d M tgt lc st S D S' Post) (kf : a = 0 → EV G d M (pc + 3) lc st S D S' Post) : EV G d M pc lc (.int x :: st) S D S' Post := by
  subst hx
  exact EV.if_ne hd ht (fun h => kt (fun e => h (((nI_eq ha (b := 0) (by decide)).mpr e).trans nI_0))) (fun h => kf ((nI_eq ha (b := 0) (by decide)).mp (h.trans nI_0.symm)))
theorem EV.if_gtN {x : Int32} {a : Nat} {off : Int} {tgt : Nat} (hd : decode M.2.1 pc = .ok (.ifCond .gt off, 3)) (ht : (pc : Int) + off = (tgt : Int)) (hx : x = nI a) (ha : a < 2 ^ 31) (kt : 0 < a → EV G d M tgt lc st S D S' Post) (kf : a = 0 → EV G d M (pc + 3) lc st S D S' Post) : EV G d M pc lc (.int x :: st) S D S' Post := by
  subst hx
  exact EV.if_gt hd ht (fun h => kt ((nI_ltI (a := 0) (by decide) ha).mp (by rw [nI_0]; exact h))) (fun h => kf (Nat.eq_zero_of_not_pos (fun e => h (by rw [← nI_0]; exact (nI_ltI (a := 0) (by decide) ha).mpr e))))
theorem EV.if_leN {x : Int32} {a : Nat} {off : Int} {tgt : Nat} (hd : decode M.2.1 pc = .ok (.ifCond .le off, 3)) (ht : (pc : Int) + off = (tgt : Int)) (hx : x = nI a) (ha : a < 2 ^ 31) (kt : a = 0 → EV G d M tgt lc st S D S' Post) (kf : 0 < a → EV G d M (pc + 3) lc st S D S' Post) : EV G d M pc lc (.int x :: st) S D S' Post := by
  subst hx
  exact EV.if_le hd ht (fun h => kt (Nat.le_zero.mp ((nI_leI ha (b := 0) (by decide)).mp (by rw [nI_0]; exact h)))) (fun h => kf (Nat.pos_of_ne_zero (fun e => h (by rw [e, nI_0]; exact Int32.le_refl 0))))
theorem EV.if_ltN {x : Int32} {a : Nat} {off : Int} (hd : decode M.2.1 pc = .ok (.ifCond .lt off, 3)) (hx : x = nI a) (ha : a < 2 ^ 31) {tgt : Nat} (ht : (pc : Int) + off = (tgt : Int)) (kf : EV G d M (pc + 3) lc st S D S' Post) : EV G d M pc lc (.int x :: st) S D S' Post := by
  subst hx
  exact EV.if_lt hd ht (fun h => absurd h (nI_pos ha)) (fun _ => kf)
theorem EV.if_geN {x : Int32} {a : Nat} {off : Int} {tgt : Nat} (hd : decode M.2.1 pc = .ok (.ifCond .ge off, 3)) (hx : x = nI a) (ha : a < 2 ^ 31) (ht : (pc : Int) + off = (tgt : Int)) (kt : EV G d M tgt lc st S D S' Post) : EV G d M pc lc (.int x :: st) S D S' Post := by
  subst hx
  exact EV.if_ge hd ht (fun _ => kt) (fun h => absurd (nI_pos' ha) h)
end MXQ
