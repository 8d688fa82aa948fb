/-! new int[N][K] -/
theorem vq_outer (c : ClassId) (N h0 : Nat) : ∀ i : Nat, Jvm.Free.Multi.outerC c N h0 i = arrV c N (fun j => va_rf (if j < i then some (h0 + 1 + j) else none))
  | 0 => by
    show ({ cls := c, slots := Array.replicate N .null, vm := .none } : Cell) = _
    rw [arrV_new]
    refine congrArg (arrV c N) (funext fun j => ?_)
    simp [va_rf]
  | i + 1 => by
    show (Jvm.Free.Multi.outerC c N h0 i).setSlot i (.ref (h0 + 1 + i)) = _
    rw [vq_outer c N h0 i, arrV_store]
    refine congrArg (arrV c N) (funext fun j => ?_)
    by_cases e : j = i
    · subst e
      simp [updV, va_rf]
    · by_cases h : j < i
      · simp [updV, e, h, Nat.lt_succ_of_lt h]
      · simp [updV, e, h, show ¬ j < i + 1 by omega]
def mx_rows (a t t0 N K : Nat) : List mx_Sh := .inr (.inr (t, (List.range N).map fun i => some (a + 1 + i))) :: List.replicate N (.inr (.inl (t0, K)))
def mx_zs (D : mx_Mem) (a : Nat) : mx_Mem := fun q => if a ≤ q then fun _ => 0 else D q
theorem mx_sl_ap (a b : List mx_Sh) : mx_sl (a ++ b) = mx_sl a + mx_sl b := by unfold mx_sl; rw [List.map_append, List.sum_append_nat]
theorem mx_rows_len (a t t0 N K : Nat) : (mx_rows a t t0 N K).length = N + 1 := by simp [mx_rows]
theorem mx_rows_sl (a t t0 N K : Nat) : mx_sl (mx_rows a t t0 N K) = N + N * K := by
  unfold mx_sl mx_rows
  rw [List.map_cons, List.sum_cons, List.map_replicate, List.sum_replicate_nat]
  simp [mx_n]
section MNA
variable {G : mx_G} {d : Nat} {M : mx_M} {pc : Nat} {lc : List (Option Value)} {st : List Value} {S S' : List mx_Sh} {D : mx_Mem} {Post : Option Value → mx_Mem → Prop}
theorem EV.mna {idx t t0 N K : Nat} {n k : Int32} (ht : mx_ty[t]? = some (.array .int)) (ht0 : mx_ty[t0]? = some .int) (hl : Cond.classLink M.1.cls idx ("[" ++ (FieldType.array .int).toString) ∈ mx_gw) (hac : Cond.arrayClass .int ∈ mx_gw) (hn : ¬ n < 0) (hk : ¬ k < 0) (hN : n.toNatClampNeg = N) (hKK : k.toNatClampNeg = K) (hb1 : N * 4 ≤ 536870912) (hb2 : K * componentBytes .int ≤ 536870912) (hb3 : K ≤ 536870912) (hd : decode M.2.1 pc = .ok (.multianewarray idx 2, 4)) (kk : EV G d M (pc + 4) lc (.ref S.length :: st) (S ++ mx_rows S.length t t0 N K) (mx_zs D S.length) S' Post) : EV G d M pc lc (.int k :: .int n :: st) S D S' Post := by
  have k1 := kk.1
  rw [mx_sl_ap, List.length_append, mx_rows_len, mx_rows_sl] at k1
  refine ⟨⟨by omega, by omega⟩, fun p e R s m args below meth c H locs cells slots Q ls cx hH hS hlv h0 h1 h2 hr => ?_⟩
  have cx' := cx
  obtain ⟨hx, hcb, -, -, hown, hts, hnw, hK, -, -, ⟨-, -, hbs⟩, -⟩ := cx
  subst hN
  subst hKK
  intro T hT Xs
  obtain ⟨vm₁, cA, comp, -, fA, fC, hO, -, X', step⟩ := Xs.multianewarray2F hx hown (hts _ hl) hnw.2.2 (hts _ hac) (g := F0 m pc ls (.int k :: .int n :: st.map (mx_cv G))) rfl (by rw [hcb]; exact hd) rfl hn hk hb1 hb2 hb3 rfl rfl (by omega) (by omega)
  generalize hF : Jvm.Free.Multi.fill (T.setVm vm₁) cA comp n.toNatClampNeg k.toNatClampNeg (defaultValue .int) n.toNatClampNeg = F at X' step
  have hTh : (T.setVm vm₁).heap = H := hT
  obtain ⟨f1, f2, -, -⟩ := Jvm.Free.Multi.fill_facts (T.setVm vm₁) cA comp n.toNatClampNeg k.toNatClampNeg (defaultValue .int) n.toNatClampNeg
  rw [hF, hTh] at f1 f2
  have hold : ∀ x : Nat, x < H.size → F.heap[x]? = H[x]? := fun x hx => by
    have := Jvm.Free.Multi.fill_old (T.setVm vm₁) cA comp n.toNatClampNeg k.toNatClampNeg (defaultValue .int) (a := x) (by rw [hTh]; exact hx) n.toNatClampNeg
    rw [hF, hTh] at this
    exact this
  have hrow : ∀ j : Nat, j < n.toNatClampNeg → F.heap[H.size + 1 + j]? = some (Jvm.Free.Multi.innerC comp k.toNatClampNeg (.int 0)) := fun j hj => by
    have := Jvm.Free.Multi.fill_inner (T.setVm vm₁) cA comp n.toNatClampNeg k.toNatClampNeg (defaultValue .int) n.toNatClampNeg j hj
    rw [hF, hTh] at this
    exact this
  rw [vq_outer] at f2
  have eA : cA = mx_cA G t := mx_RA (U := s) (ty := .array .int) fA (hK.2 t _ (mx_tys_at ht)).2
  have eC : comp = mx_cA G t0 := mx_RA (U := s) (ty := .int) fC (hK.2 t0 _ (mx_tys_at ht0)).2
  subst eA eC
  have hsz := hH.1
  have hP1 : va_P (mx_dd G) vwCl (mx_ws G (S ++ mx_rows S.length t t0 n.toNatClampNeg k.toNatClampNeg) (mx_zs D S.length)) F.heap := by
    intro i q hq
    obtain ⟨hi, -⟩ := mx_wsk hq
    rw [List.length_append, mx_rows_len] at hi
    by_cases h9 : i < S.length
    · have hs : S[i]? = some S[i] := List.getElem?_eq_getElem h9
      have hs2 : (S ++ mx_rows S.length t t0 n.toNatClampNeg k.toNatClampNeg)[i]? = some S[i] := by rw [List.getElem?_append_left h9]; exact hs
      rw [mx_ws_at hs2] at hq
      cases hq
      have e2 : mx_zs D S.length i = D i := by unfold mx_zs; rw [if_neg (by omega)]
      rw [e2]
      exact (hH.2 i _ (mx_ws_at hs)).kept (hold _ (by show mx_base G + i < H.size; omega))
    · have e2 : mx_zs D S.length i = fun _ => 0 := by unfold mx_zs; rw [if_pos (by omega)]
      by_cases h8 : i = S.length
      · subst h8
        have hs2 : (S ++ mx_rows S.length t t0 n.toNatClampNeg k.toNatClampNeg)[S.length]? = some (.inr (.inr (t, (List.range n.toNatClampNeg).map fun i => some (S.length + 1 + i)))) := by rw [List.getElem?_append_right (Nat.le_refl _)]; simp [mx_rows]
        rw [mx_ws_at hs2] at hq
        cases hq
        show F.heap[mx_base G + S.length]? = some _
        rw [← hsz, f2]
        refine congrArg some ?_
        show arrV (mx_cA G t) n.toNatClampNeg _ = vp_cell (mx_cA G t) (((List.range n.toNatClampNeg).map fun i => some (S.length + 1 + i)).length, _)
        rw [vp_cell_q, List.length_map, List.length_range]
        refine congrArg (arrV (mx_cA G t) n.toNatClampNeg) (funext fun j => ?_)
        refine congrArg va_rf ?_
        by_cases hj : j < n.toNatClampNeg
        · rw [if_pos hj]
          simp [hj, mx_ad, hsz]
          omega
        · rw [if_neg hj]
          simp [hj]
      · obtain ⟨j, rfl⟩ : ∃ j, i = S.length + 1 + j := ⟨i - S.length - 1, by omega⟩
        have hs2 : (S ++ mx_rows S.length t t0 n.toNatClampNeg k.toNatClampNeg)[S.length + 1 + j]? = some (.inr (.inl (t0, k.toNatClampNeg))) := by
          rw [List.getElem?_append_right (by omega), show S.length + 1 + j - S.length = j + 1 by omega]
          unfold mx_rows
          rw [List.getElem?_cons_succ, List.getElem?_replicate, if_pos (by omega)]
        rw [mx_ws_at hs2, e2] at hq
        cases hq
        show F.heap[mx_base G + (S.length + 1 + j)]? = some _
        rw [show mx_base G + (S.length + 1 + j) = H.size + 1 + j by omega, hrow j (by omega)]
        refine congrArg some ?_
        show ({ cls := mx_cA G t0, slots := Array.replicate k.toNatClampNeg (.int 0), vm := .none } : Cell) = vp_cell (mx_cA G t0) (k.toNatClampNeg, .inl fun _ => 0)
        rw [vp_cell_i, arrV_new]
  have K := kk.2 p e R s m args below meth c F.heap locs (cells + 1 + n.toNatClampNeg) (slots + n.toNatClampNeg + n.toNatClampNeg * k.toNatClampNeg) Q ls cx' ⟨by rw [f1, List.length_append, mx_rows_len]; omega, hP1⟩ (mx_ST hS ⟨by rw [f1]; omega, fun q hq _ => hold q hq, hS.2.2⟩) hlv (by rw [List.length_append, mx_rows_len]; omega) (by rw [List.length_append, mx_rows_len]; omega) (by rw [mx_sl_ap, mx_rows_sl]; omega) (fun rv' D' H' locs' pc' ls' q1 q2 q3 q4 => by
    have := hr rv' D' H' locs' pc' ls' q1 q2 q3 q4
    rw [mx_sl_ap, List.length_append, mx_rows_len, mx_rows_sl]
    rw [show cells + 1 + n.toNatClampNeg + (S'.length - (S.length + (n.toNatClampNeg + 1))) = cells + (S'.length - S.length) by omega, show slots + n.toNatClampNeg + n.toNatClampNeg * k.toNatClampNeg + (mx_sl S' - (mx_sl S + (n.toNatClampNeg + n.toNatClampNeg * k.toNatClampNeg))) = slots + (mx_sl S' - mx_sl S) by omega]
    exact this)
  obtain ⟨t9, a1, b1⟩ := K F rfl X'
  refine ⟨t9, step t9 ?_, b1⟩
  have e9 : T.heap.size = mx_ad G S.length := by rw [hT]; exact hsz
  rw [e9]
  exact a1
theorem EV.mnaL {idx t t0 N K a : Nat} {n k : Int32} {S2 : List mx_Sh} (ha : S.length = a) (hS2 : S ++ mx_rows a t t0 N K = S2) (ht : mx_ty[t]? = some (.array .int)) (ht0 : mx_ty[t0]? = some .int) (hl : Cond.classLink M.1.cls idx ("[" ++ (FieldType.array .int).toString) ∈ mx_gw) (hac : Cond.arrayClass .int ∈ mx_gw) (hn : ¬ n < 0) (hk : ¬ k < 0) (hN : n.toNatClampNeg = N) (hKK : k.toNatClampNeg = K) (hb1 : N * 4 ≤ 536870912) (hb2 : K * componentBytes .int ≤ 536870912) (hb3 : K ≤ 536870912) (hd : decode M.2.1 pc = .ok (.multianewarray idx 2, 4)) (kk : EV G d M (pc + 4) lc (.ref a :: st) S2 (mx_zs D a) S' Post) : EV G d M pc lc (.int k :: .int n :: st) S D S' Post := by
  subst ha hS2
  exact EV.mna ht ht0 hl hac hn hk hN hKK hb1 hb2 hb3 hd kk
theorem EV.shp {S2 : List mx_Sh} (h : S = S2) (kk : EV G d M pc lc st S2 D S' Post) : EV G d M pc lc st S D S' Post := by
  subst h
  exact kk
theorem EV.newL {idx ci a : Nat} {q : vw_C} {fs : List (Option (Option Nat))} {S2 : List mx_Sh} (ha : S.length = a) (hS2 : S ++ [.inl (ci, fs)] = S2) (hq : vwCl[ci]? = some q) (hl : Cond.classLink M.1.cls idx q.1 ∈ mx_gw ∧ Cond.instantiable q.1 q.2.2 ∈ mx_gw ∧ Cond.initialized q.1 ∈ mx_gw) (hfs : fs.length = q.2.2 ∧ ∀ j, j < q.2.2 → defaultValue ((parseFieldDescriptor (q.2.1 j).2.2.1).getD .int) = mx_rd 0 (fs.getD j none)) (hd : decode M.2.1 pc = .ok (.new idx, 3)) (kk : EV G d M (pc + 3) lc (.ref a :: st) S2 (mx_z D a) S' Post) : EV G d M pc lc st S D S' Post := by
  subst ha hS2
  exact EV.new hq hl hfs hd kk
theorem EV.newaL {t N a : Nat} {atype : ArrayType} {ty : FieldType} {n : Int32} {S2 : List mx_Sh} (ha : S.length = a) (hS2 : S ++ [.inr (.inl (t, N))] = S2) (hty : newarray.typeOf atype = ty) (ht : mx_ty[t]? = some ty) (hac : Cond.arrayClass ty ∈ mx_gw) (hdv : defaultValue ty = .int 0) (hn : ¬ n < 0) (hN : n.toNatClampNeg = N) (hb : N * componentBytes ty ≤ 536870912) (hd : decode M.2.1 pc = .ok (.newarray atype, 2)) (kk : EV G d M (pc + 2) lc (.ref a :: st) S2 (mx_z D a) S' Post) : EV G d M pc lc (.int n :: st) S D S' Post := by
  subst ha hS2
  exact EV.newa hty ht hac hdv hn hN hb hd kk
theorem EV.anewL {idx t N a : Nat} {C : String} {n : Int32} {S2 : List mx_Sh} (ha : S.length = a) (hS2 : S ++ [.inr (.inr (t, List.replicate N none))] = S2) (ht : mx_ty[t]? = some (.object C)) (hl : Cond.classLink M.1.cls idx C ∈ mx_gw) (hao : C ∈ mx_ao) (hn : ¬ n < 0) (hN : n.toNatClampNeg = N) (hb : N * 4 ≤ 536870912) (hd : decode M.2.1 pc = .ok (.anewarray idx, 3)) (kk : EV G d M (pc + 3) lc (.ref a :: st) S2 (mx_z D a) S' Post) : EV G d M pc lc (.int n :: st) S D S' Post := by
  subst ha hS2
  exact EV.anew ht hl hao hn hN hb hd kk
end MNA
