theorem la_lt {L i : Nat} (hL : L ≤ 2048) (h : L < i + 4) (hi : i ≤ L) : nI L - nI 4 < nI i := by
  rcases Nat.lt_or_ge L 4 with q | q
  · have hn : nI L - nI 4 < 0 := by
      rcases (show L = 0 ∨ L = 1 ∨ L = 2 ∨ L = 3 by omega) with rfl | rfl | rfl | rfl <;> decide
    exact Int32.lt_of_lt_of_le hn (nI_pos' (by omega))
  · rw [pk_sub q]
    exact (nI_ltI (by omega) (by omega)).mpr (by omega)
set_option maxHeartbeats 4000000 in
set_option maxRecDepth 100000 in
theorem la_0 {G : mx_G} {i : Nat} {D : mx_Mem} {σ : sg} (hL : mx_L G ≤ 2048) (hi : i + 4 ≤ mx_L G) (hC : CI D σ) (hM : MI D σ) (hI : SI σ) (hN : σ.2.2.2.2 ≤ 2 ^ 31) (K : ∀ (D2 : mx_Mem) (σ2 : sg), CI D2 σ2 → MI D2 σ2 → SI σ2 → σ2.2.2.2.2 ≤ σ.2.2.2.2 + 1 → EV G 9 m_La_law 470 [some (.retAddr 0), some (.ref 0), some (.ref 80), some (.int (nI i))] [] sh93 D2 sh93 (fun rv _ => rv = some (.int 1))) : EV G 9 m_La_law 104 [some (.retAddr 0), some (.ref 0), some (.ref 80), some (.int (nI i))] [] sh93 D sh93 (fun rv _ => rv = some (.int 1)) := by
  refine EV.aload_n d_La_law_104 rfl ?_
  refine EV.aload_s d_La_law_105 rfl ?_
  refine EV.iload_n d_La_law_106 rfl ?_
  refine EV.iconst (v := nI 1) d_La_law_107 (by decide) ?_
  refine EV.iadd d_La_law_108 ?_
  refine EV.top (nI_add _ _) ?_
  refine EV.sld d_La_law_109 (nI_in (by omega) (by omega)) ?_
  refine EV.aload_s d_La_law_110 rfl ?_
  refine EV.iload_n d_La_law_111 rfl ?_
  refine EV.iconst (v := nI 2) d_La_law_112 (by decide) ?_
  refine EV.iadd d_La_law_113 ?_
  refine EV.top (nI_add _ _) ?_
  refine EV.sld d_La_law_114 (nI_in (by omega) (by omega)) ?_
  refine EV.i2c d_La_law_115 (pk_char _) ?_
  refine EV.V2 cv_La_13 d_La_law_116 rfl (cl_type SH93 hC hI (Nat.mod_lt _ (by decide))) ⟨Nat.le_refl _, Nat.le_refl _⟩ rfl rfl (Nat.le_of_ble_eq_true rfl) (fun rv D1 hp => ?_)
  obtain ⟨rfl, hC1, hF1⟩ := hp
  have hM1 := MI_80 hM hF1
  refine EV.aload_n d_La_law_119 rfl ?_
  refine EV.aload_s d_La_law_120 rfl ?_
  refine EV.iload_n d_La_law_121 rfl ?_
  refine EV.iconst (v := nI 1) d_La_law_122 (by decide) ?_
  refine EV.iadd d_La_law_123 ?_
  refine EV.top (nI_add _ _) ?_
  refine EV.sld d_La_law_124 (nI_in (by omega) (by omega)) ?_
  refine EV.aload_s d_La_law_125 rfl ?_
  refine EV.iload_n d_La_law_126 rfl ?_
  refine EV.iconst (v := nI 2) d_La_law_127 (by decide) ?_
  refine EV.iadd d_La_law_128 ?_
  refine EV.top (nI_add _ _) ?_
  refine EV.sld d_La_law_129 (nI_in (by omega) (by omega)) ?_
  refine EV.i2c d_La_law_130 (pk_char _) ?_
  refine EV.V2 cv_La_17 d_La_law_131 rfl (rf_type SM93 hM1 hI (Nat.mod_lt _ (by decide))) ⟨Nat.le_refl _, Nat.le_refl _⟩ rfl rfl (Nat.le_of_ble_eq_true rfl) (fun rv D1 hp => ?_)
  obtain ⟨rfl, hM2, hF2⟩ := hp
  refine EV.icmp_eq (tgt := 470) d_La_law_134 (by decide) (fun _ => ?_) (fun h => absurd rfl h)
  have hsi := si_type hI (mx_xs G (nI (i + 1)).toNatClampNeg) ((mx_xs G (nI (i + 2)).toNatClampNeg).toBitVec.toNat % 65536)
  exact K D1 _ (CI_80 hsi.1 hC1 hF2) hM2 hsi.1 (by have := hsi.2; omega)
set_option maxHeartbeats 4000000 in
set_option maxRecDepth 100000 in
theorem la_1 {G : mx_G} {i : Nat} {D : mx_Mem} {σ : sg} (hL : mx_L G ≤ 2048) (hi : i + 4 ≤ mx_L G) (hC : CI D σ) (hM : MI D σ) (hI : SI σ) (hN : σ.2.2.2.2 ≤ 2 ^ 31) (K : ∀ (D2 : mx_Mem) (σ2 : sg), CI D2 σ2 → MI D2 σ2 → SI σ2 → σ2.2.2.2.2 ≤ σ.2.2.2.2 + 1 → EV G 9 m_La_law 470 [some (.retAddr 0), some (.ref 0), some (.ref 80), some (.int (nI i))] [] sh93 D2 sh93 (fun rv _ => rv = some (.int 1))) : EV G 9 m_La_law 139 [some (.retAddr 0), some (.ref 0), some (.ref 80), some (.int (nI i))] [] sh93 D sh93 (fun rv _ => rv = some (.int 1)) := by
  refine EV.aload_n d_La_law_139 rfl ?_
  refine EV.aload_s d_La_law_140 rfl ?_
  refine EV.iload_n d_La_law_141 rfl ?_
  refine EV.iconst (v := nI 1) d_La_law_142 (by decide) ?_
  refine EV.iadd d_La_law_143 ?_
  refine EV.top (nI_add _ _) ?_
  refine EV.sld d_La_law_144 (nI_in (by omega) (by omega)) ?_
  refine EV.V1 cv_La_18 d_La_law_145 rfl (cl_wipe SH93 hC hI) ⟨Nat.le_refl _, Nat.le_refl _⟩ rfl rfl (Nat.le_of_ble_eq_true rfl) (fun rv D1 hp => ?_)
  obtain ⟨rfl, hC1, hF1⟩ := hp
  have hM1 := MI_80 hM hF1
  refine EV.aload_n d_La_law_148 rfl ?_
  refine EV.aload_s d_La_law_149 rfl ?_
  refine EV.iload_n d_La_law_150 rfl ?_
  refine EV.iconst (v := nI 1) d_La_law_151 (by decide) ?_
  refine EV.iadd d_La_law_152 ?_
  refine EV.top (nI_add _ _) ?_
  refine EV.sld d_La_law_153 (nI_in (by omega) (by omega)) ?_
  refine EV.V1 cv_La_22 d_La_law_154 rfl (rf_wipe SM93 hM1 hI) ⟨Nat.le_refl _, Nat.le_refl _⟩ rfl rfl (Nat.le_of_ble_eq_true rfl) (fun rv D1 hp => ?_)
  obtain ⟨rfl, hM2, hF2⟩ := hp
  refine EV.icmp_eq (tgt := 470) d_La_law_157 (by decide) (fun _ => ?_) (fun h => absurd rfl h)
  have hsi := si_wipe hI (mx_xs G (nI (i + 1)).toNatClampNeg)
  exact K D1 _ (CI_80 hsi.1 hC1 hF2) hM2 hsi.1 (by have := hsi.2; omega)
set_option maxHeartbeats 4000000 in
set_option maxRecDepth 100000 in
theorem la_2 {G : mx_G} {i : Nat} {D : mx_Mem} {σ : sg} (hL : mx_L G ≤ 2048) (hi : i + 4 ≤ mx_L G) (hC : CI D σ) (hM : MI D σ) (hI : SI σ) (hN : σ.2.2.2.2 ≤ 2 ^ 31) (K : ∀ (D2 : mx_Mem) (σ2 : sg), CI D2 σ2 → MI D2 σ2 → SI σ2 → σ2.2.2.2.2 ≤ σ.2.2.2.2 + 1 → EV G 9 m_La_law 470 [some (.retAddr 0), some (.ref 0), some (.ref 80), some (.int (nI i))] [] sh93 D2 sh93 (fun rv _ => rv = some (.int 1))) : EV G 9 m_La_law 162 [some (.retAddr 0), some (.ref 0), some (.ref 80), some (.int (nI i))] [] sh93 D sh93 (fun rv _ => rv = some (.int 1)) := by
  refine EV.aload_n d_La_law_162 rfl ?_
  refine EV.V0 cv_La_23 d_La_law_163 rfl (cl_tail SH93 hC hI) ⟨Nat.le_refl _, Nat.le_refl _⟩ rfl rfl (Nat.le_of_ble_eq_true rfl) (fun rv D1 hp => ?_)
  obtain ⟨rfl, hC1, hF1⟩ := hp
  have hM1 := MI_80 hM hF1
  refine EV.aload_n d_La_law_166 rfl ?_
  refine EV.V0 cv_La_27 d_La_law_167 rfl (rf_tail SM93 hM1 hI) ⟨Nat.le_refl _, Nat.le_refl _⟩ rfl rfl (Nat.le_of_ble_eq_true rfl) (fun rv D1 hp => ?_)
  obtain ⟨rfl, hM2, hF2⟩ := hp
  refine EV.icmp_eq (tgt := 470) d_La_law_170 (by decide) (fun _ => ?_) (fun h => absurd rfl h)
  have hsi := si_tail hI
  exact K D1 _ (CI_80 hsi.1 hC1 hF2) hM2 hsi.1 (by have := hsi.2; omega)
set_option maxHeartbeats 4000000 in
set_option maxRecDepth 100000 in
theorem la_3 {G : mx_G} {i : Nat} {D : mx_Mem} {σ : sg} (hL : mx_L G ≤ 2048) (hi : i + 4 ≤ mx_L G) (hC : CI D σ) (hM : MI D σ) (hI : SI σ) (hN : σ.2.2.2.2 ≤ 2 ^ 31) (K : ∀ (D2 : mx_Mem) (σ2 : sg), CI D2 σ2 → MI D2 σ2 → SI σ2 → σ2.2.2.2.2 ≤ σ.2.2.2.2 + 1 → EV G 9 m_La_law 470 [some (.retAddr 0), some (.ref 0), some (.ref 80), some (.int (nI i))] [] sh93 D2 sh93 (fun rv _ => rv = some (.int 1))) : EV G 9 m_La_law 175 [some (.retAddr 0), some (.ref 0), some (.ref 80), some (.int (nI i))] [] sh93 D sh93 (fun rv _ => rv = some (.int 1)) := by
  refine EV.aload_n d_La_law_175 rfl ?_
  refine EV.V0 cv_La_28 d_La_law_176 rfl (cl_entries SH93 hC hI) ⟨Nat.le_refl _, Nat.le_refl _⟩ rfl rfl (Nat.le_of_ble_eq_true rfl) (fun rv D1 hp => ?_)
  obtain ⟨rfl, hC1, hF1⟩ := hp
  have hM1 := MI_80 hM hF1
  refine EV.aload_n d_La_law_179 rfl ?_
  refine EV.V0 cv_La_31 d_La_law_180 rfl (rf_entries SM93 hM1 hI) ⟨Nat.le_refl _, Nat.le_refl _⟩ rfl rfl (Nat.le_of_ble_eq_true rfl) (fun rv D1 hp => ?_)
  obtain ⟨rfl, hM2, hF2⟩ := hp
  refine EV.icmp_eq (tgt := 470) d_La_law_183 (by decide) (fun _ => ?_) (fun h => absurd rfl h)
  exact K D1 σ (CI_80 hI hC1 hF2) hM2 hI (by omega)
set_option maxHeartbeats 4000000 in
set_option maxRecDepth 100000 in
theorem la_4 {G : mx_G} {i : Nat} {D : mx_Mem} {σ : sg} (hL : mx_L G ≤ 2048) (hi : i + 4 ≤ mx_L G) (hC : CI D σ) (hM : MI D σ) (hI : SI σ) (hN : σ.2.2.2.2 ≤ 2 ^ 31) (K : ∀ (D2 : mx_Mem) (σ2 : sg), CI D2 σ2 → MI D2 σ2 → SI σ2 → σ2.2.2.2.2 ≤ σ.2.2.2.2 + 1 → EV G 9 m_La_law 470 [some (.retAddr 0), some (.ref 0), some (.ref 80), some (.int (nI i))] [] sh93 D2 sh93 (fun rv _ => rv = some (.int 1))) : EV G 9 m_La_law 188 [some (.retAddr 0), some (.ref 0), some (.ref 80), some (.int (nI i))] [] sh93 D sh93 (fun rv _ => rv = some (.int 1)) := by
  refine EV.aload_n d_La_law_188 rfl ?_
  refine EV.aload_s d_La_law_189 rfl ?_
  refine EV.iload_n d_La_law_190 rfl ?_
  refine EV.iconst (v := nI 1) d_La_law_191 (by decide) ?_
  refine EV.iadd d_La_law_192 ?_
  refine EV.top (nI_add _ _) ?_
  refine EV.sld d_La_law_193 (nI_in (by omega) (by omega)) ?_
  refine EV.aload_s d_La_law_194 rfl ?_
  refine EV.iload_n d_La_law_195 rfl ?_
  refine EV.iconst (v := nI 2) d_La_law_196 (by decide) ?_
  refine EV.iadd d_La_law_197 ?_
  refine EV.top (nI_add _ _) ?_
  refine EV.sld d_La_law_198 (nI_in (by omega) (by omega)) ?_
  refine EV.V2 cv_La_32 d_La_law_199 rfl (cl_ent SH93 hC hI) ⟨Nat.le_refl _, Nat.le_refl _⟩ rfl rfl (Nat.le_of_ble_eq_true rfl) (fun rv D1 hp => ?_)
  obtain ⟨rfl, hC1, hF1⟩ := hp
  have hM1 := MI_80 hM hF1
  refine EV.aload_n d_La_law_202 rfl ?_
  refine EV.aload_s d_La_law_203 rfl ?_
  refine EV.iload_n d_La_law_204 rfl ?_
  refine EV.iconst (v := nI 1) d_La_law_205 (by decide) ?_
  refine EV.iadd d_La_law_206 ?_
  refine EV.top (nI_add _ _) ?_
  refine EV.sld d_La_law_207 (nI_in (by omega) (by omega)) ?_
  refine EV.aload_s d_La_law_208 rfl ?_
  refine EV.iload_n d_La_law_209 rfl ?_
  refine EV.iconst (v := nI 2) d_La_law_210 (by decide) ?_
  refine EV.iadd d_La_law_211 ?_
  refine EV.top (nI_add _ _) ?_
  refine EV.sld d_La_law_212 (nI_in (by omega) (by omega)) ?_
  refine EV.V2 cv_La_36 d_La_law_213 rfl (rf_ent SM93 hM1 hI) ⟨Nat.le_refl _, Nat.le_refl _⟩ rfl rfl (Nat.le_of_ble_eq_true rfl) (fun rv D1 hp => ?_)
  obtain ⟨rfl, hM2, hF2⟩ := hp
  refine EV.icmp_eq (tgt := 470) d_La_law_216 (by decide) (fun _ => ?_) (fun h => absurd rfl h)
  exact K D1 σ (CI_80 hI hC1 hF2) hM2 hI (by omega)
set_option maxHeartbeats 4000000 in
set_option maxRecDepth 100000 in
theorem la_5 {G : mx_G} {i : Nat} {D : mx_Mem} {σ : sg} (hL : mx_L G ≤ 2048) (hi : i + 4 ≤ mx_L G) (hC : CI D σ) (hM : MI D σ) (hI : SI σ) (hN : σ.2.2.2.2 ≤ 2 ^ 31) (K : ∀ (D2 : mx_Mem) (σ2 : sg), CI D2 σ2 → MI D2 σ2 → SI σ2 → σ2.2.2.2.2 ≤ σ.2.2.2.2 + 1 → EV G 9 m_La_law 470 [some (.retAddr 0), some (.ref 0), some (.ref 80), some (.int (nI i))] [] sh93 D2 sh93 (fun rv _ => rv = some (.int 1))) : EV G 9 m_La_law 221 [some (.retAddr 0), some (.ref 0), some (.ref 80), some (.int (nI i))] [] sh93 D sh93 (fun rv _ => rv = some (.int 1)) := by
  by_cases h2 : mx_xs G (nI (i + 2)).toNatClampNeg = 0 <;> by_cases h3 : mx_xs G (nI (i + 3)).toNatClampNeg = 0
  · refine EV.aload_n d_La_law_221 rfl ?_
    refine EV.aload_s d_La_law_222 rfl ?_
    refine EV.iload_n d_La_law_223 rfl ?_
    refine EV.iconst (v := nI 1) d_La_law_224 (by decide) ?_
    refine EV.iadd d_La_law_225 ?_
    refine EV.top (nI_add _ _) ?_
    refine EV.sld d_La_law_226 (nI_in (by omega) (by omega)) ?_
    refine EV.aload_s d_La_law_227 rfl ?_
    refine EV.iload_n d_La_law_228 rfl ?_
    refine EV.iconst (v := nI 2) d_La_law_229 (by decide) ?_
    refine EV.iadd d_La_law_230 ?_
    refine EV.top (nI_add _ _) ?_
    refine EV.sld d_La_law_231 (nI_in (by omega) (by omega)) ?_
    refine EV.if_eq (tgt := 239) d_La_law_232 (by decide) (fun _ => ?_) (fun q => absurd h2 q)
    refine EV.iconst (v := nI 0) d_La_law_239 (by decide) ?_
    refine EV.aload_s d_La_law_240 rfl ?_
    refine EV.iload_n d_La_law_241 rfl ?_
    refine EV.iconst (v := nI 3) d_La_law_242 (by decide) ?_
    refine EV.iadd d_La_law_243 ?_
    refine EV.top (nI_add _ _) ?_
    refine EV.sld d_La_law_244 (nI_in (by omega) (by omega)) ?_
    refine EV.if_eq (tgt := 252) d_La_law_245 (by decide) (fun _ => ?_) (fun q => absurd h3 q)
    refine EV.iconst (v := nI 0) d_La_law_252 (by decide) ?_
    refine EV.V3 cv_La_37 d_La_law_253 rfl (cl_form (b1 := false) (b2 := false) SH93 hC hI) ⟨Nat.le_refl _, Nat.le_refl _⟩ rfl rfl (Nat.le_of_ble_eq_true rfl) (fun rv D1 hp => ?_)
    obtain ⟨rfl, hC1, hF1⟩ := hp
    have hM1 := MI_80 hM hF1
    refine EV.aload_n d_La_law_256 rfl ?_
    refine EV.aload_s d_La_law_257 rfl ?_
    refine EV.iload_n d_La_law_258 rfl ?_
    refine EV.iconst (v := nI 1) d_La_law_259 (by decide) ?_
    refine EV.iadd d_La_law_260 ?_
    refine EV.top (nI_add _ _) ?_
    refine EV.sld d_La_law_261 (nI_in (by omega) (by omega)) ?_
    refine EV.aload_s d_La_law_262 rfl ?_
    refine EV.iload_n d_La_law_263 rfl ?_
    refine EV.iconst (v := nI 2) d_La_law_264 (by decide) ?_
    refine EV.iadd d_La_law_265 ?_
    refine EV.top (nI_add _ _) ?_
    refine EV.sld d_La_law_266 (nI_in (by omega) (by omega)) ?_
    refine EV.if_eq (tgt := 274) d_La_law_267 (by decide) (fun _ => ?_) (fun q => absurd h2 q)
    refine EV.iconst (v := nI 0) d_La_law_274 (by decide) ?_
    refine EV.aload_s d_La_law_275 rfl ?_
    refine EV.iload_n d_La_law_276 rfl ?_
    refine EV.iconst (v := nI 3) d_La_law_277 (by decide) ?_
    refine EV.iadd d_La_law_278 ?_
    refine EV.top (nI_add _ _) ?_
    refine EV.sld d_La_law_279 (nI_in (by omega) (by omega)) ?_
    refine EV.if_eq (tgt := 287) d_La_law_280 (by decide) (fun _ => ?_) (fun q => absurd h3 q)
    refine EV.iconst (v := nI 0) d_La_law_287 (by decide) ?_
    refine EV.V3 cv_La_41 d_La_law_288 rfl (rf_form (b1 := false) (b2 := false) SM93 hM1 hI) ⟨Nat.le_refl _, Nat.le_refl _⟩ rfl rfl (Nat.le_of_ble_eq_true rfl) (fun rv D1 hp => ?_)
    obtain ⟨rfl, hM2, hF2⟩ := hp
    refine EV.icmp_eq (tgt := 470) d_La_law_291 (by decide) (fun _ => ?_) (fun h => absurd rfl h)
    have hsi := si_form hI (mx_xs G (nI (i + 1)).toNatClampNeg) false false
    exact K D1 _ (CI_80 hsi.1 hC1 hF2) hM2 hsi.1 (by have := hsi.2; omega)
  · refine EV.aload_n d_La_law_221 rfl ?_
    refine EV.aload_s d_La_law_222 rfl ?_
    refine EV.iload_n d_La_law_223 rfl ?_
    refine EV.iconst (v := nI 1) d_La_law_224 (by decide) ?_
    refine EV.iadd d_La_law_225 ?_
    refine EV.top (nI_add _ _) ?_
    refine EV.sld d_La_law_226 (nI_in (by omega) (by omega)) ?_
    refine EV.aload_s d_La_law_227 rfl ?_
    refine EV.iload_n d_La_law_228 rfl ?_
    refine EV.iconst (v := nI 2) d_La_law_229 (by decide) ?_
    refine EV.iadd d_La_law_230 ?_
    refine EV.top (nI_add _ _) ?_
    refine EV.sld d_La_law_231 (nI_in (by omega) (by omega)) ?_
    refine EV.if_eq (tgt := 239) d_La_law_232 (by decide) (fun _ => ?_) (fun q => absurd h2 q)
    refine EV.iconst (v := nI 0) d_La_law_239 (by decide) ?_
    refine EV.aload_s d_La_law_240 rfl ?_
    refine EV.iload_n d_La_law_241 rfl ?_
    refine EV.iconst (v := nI 3) d_La_law_242 (by decide) ?_
    refine EV.iadd d_La_law_243 ?_
    refine EV.top (nI_add _ _) ?_
    refine EV.sld d_La_law_244 (nI_in (by omega) (by omega)) ?_
    refine EV.if_eq (tgt := 252) d_La_law_245 (by decide) (fun q => absurd q h3) (fun _ => ?_)
    refine EV.iconst (v := nI 1) d_La_law_248 (by decide) ?_
    refine EV.goto (tgt := 253) d_La_law_249 (by decide) ?_
    refine EV.V3 cv_La_37 d_La_law_253 rfl (cl_form (b1 := false) (b2 := true) SH93 hC hI) ⟨Nat.le_refl _, Nat.le_refl _⟩ rfl rfl (Nat.le_of_ble_eq_true rfl) (fun rv D1 hp => ?_)
    obtain ⟨rfl, hC1, hF1⟩ := hp
    have hM1 := MI_80 hM hF1
    refine EV.aload_n d_La_law_256 rfl ?_
    refine EV.aload_s d_La_law_257 rfl ?_
    refine EV.iload_n d_La_law_258 rfl ?_
    refine EV.iconst (v := nI 1) d_La_law_259 (by decide) ?_
    refine EV.iadd d_La_law_260 ?_
    refine EV.top (nI_add _ _) ?_
    refine EV.sld d_La_law_261 (nI_in (by omega) (by omega)) ?_
    refine EV.aload_s d_La_law_262 rfl ?_
    refine EV.iload_n d_La_law_263 rfl ?_
    refine EV.iconst (v := nI 2) d_La_law_264 (by decide) ?_
    refine EV.iadd d_La_law_265 ?_
    refine EV.top (nI_add _ _) ?_
    refine EV.sld d_La_law_266 (nI_in (by omega) (by omega)) ?_
    refine EV.if_eq (tgt := 274) d_La_law_267 (by decide) (fun _ => ?_) (fun q => absurd h2 q)
    refine EV.iconst (v := nI 0) d_La_law_274 (by decide) ?_
    refine EV.aload_s d_La_law_275 rfl ?_
    refine EV.iload_n d_La_law_276 rfl ?_
    refine EV.iconst (v := nI 3) d_La_law_277 (by decide) ?_
    refine EV.iadd d_La_law_278 ?_
    refine EV.top (nI_add _ _) ?_
    refine EV.sld d_La_law_279 (nI_in (by omega) (by omega)) ?_
    refine EV.if_eq (tgt := 287) d_La_law_280 (by decide) (fun q => absurd q h3) (fun _ => ?_)
    refine EV.iconst (v := nI 1) d_La_law_283 (by decide) ?_
    refine EV.goto (tgt := 288) d_La_law_284 (by decide) ?_
    refine EV.V3 cv_La_41 d_La_law_288 rfl (rf_form (b1 := false) (b2 := true) SM93 hM1 hI) ⟨Nat.le_refl _, Nat.le_refl _⟩ rfl rfl (Nat.le_of_ble_eq_true rfl) (fun rv D1 hp => ?_)
    obtain ⟨rfl, hM2, hF2⟩ := hp
    refine EV.icmp_eq (tgt := 470) d_La_law_291 (by decide) (fun _ => ?_) (fun h => absurd rfl h)
    have hsi := si_form hI (mx_xs G (nI (i + 1)).toNatClampNeg) false true
    exact K D1 _ (CI_80 hsi.1 hC1 hF2) hM2 hsi.1 (by have := hsi.2; omega)
  · refine EV.aload_n d_La_law_221 rfl ?_
    refine EV.aload_s d_La_law_222 rfl ?_
    refine EV.iload_n d_La_law_223 rfl ?_
    refine EV.iconst (v := nI 1) d_La_law_224 (by decide) ?_
    refine EV.iadd d_La_law_225 ?_
    refine EV.top (nI_add _ _) ?_
    refine EV.sld d_La_law_226 (nI_in (by omega) (by omega)) ?_
    refine EV.aload_s d_La_law_227 rfl ?_
    refine EV.iload_n d_La_law_228 rfl ?_
    refine EV.iconst (v := nI 2) d_La_law_229 (by decide) ?_
    refine EV.iadd d_La_law_230 ?_
    refine EV.top (nI_add _ _) ?_
    refine EV.sld d_La_law_231 (nI_in (by omega) (by omega)) ?_
    refine EV.if_eq (tgt := 239) d_La_law_232 (by decide) (fun q => absurd q h2) (fun _ => ?_)
    refine EV.iconst (v := nI 1) d_La_law_235 (by decide) ?_
    refine EV.goto (tgt := 240) d_La_law_236 (by decide) ?_
    refine EV.aload_s d_La_law_240 rfl ?_
    refine EV.iload_n d_La_law_241 rfl ?_
    refine EV.iconst (v := nI 3) d_La_law_242 (by decide) ?_
    refine EV.iadd d_La_law_243 ?_
    refine EV.top (nI_add _ _) ?_
    refine EV.sld d_La_law_244 (nI_in (by omega) (by omega)) ?_
    refine EV.if_eq (tgt := 252) d_La_law_245 (by decide) (fun _ => ?_) (fun q => absurd h3 q)
    refine EV.iconst (v := nI 0) d_La_law_252 (by decide) ?_
    refine EV.V3 cv_La_37 d_La_law_253 rfl (cl_form (b1 := true) (b2 := false) SH93 hC hI) ⟨Nat.le_refl _, Nat.le_refl _⟩ rfl rfl (Nat.le_of_ble_eq_true rfl) (fun rv D1 hp => ?_)
    obtain ⟨rfl, hC1, hF1⟩ := hp
    have hM1 := MI_80 hM hF1
    refine EV.aload_n d_La_law_256 rfl ?_
    refine EV.aload_s d_La_law_257 rfl ?_
    refine EV.iload_n d_La_law_258 rfl ?_
    refine EV.iconst (v := nI 1) d_La_law_259 (by decide) ?_
    refine EV.iadd d_La_law_260 ?_
    refine EV.top (nI_add _ _) ?_
    refine EV.sld d_La_law_261 (nI_in (by omega) (by omega)) ?_
    refine EV.aload_s d_La_law_262 rfl ?_
    refine EV.iload_n d_La_law_263 rfl ?_
    refine EV.iconst (v := nI 2) d_La_law_264 (by decide) ?_
    refine EV.iadd d_La_law_265 ?_
    refine EV.top (nI_add _ _) ?_
    refine EV.sld d_La_law_266 (nI_in (by omega) (by omega)) ?_
    refine EV.if_eq (tgt := 274) d_La_law_267 (by decide) (fun q => absurd q h2) (fun _ => ?_)
    refine EV.iconst (v := nI 1) d_La_law_270 (by decide) ?_
    refine EV.goto (tgt := 275) d_La_law_271 (by decide) ?_
    refine EV.aload_s d_La_law_275 rfl ?_
    refine EV.iload_n d_La_law_276 rfl ?_
    refine EV.iconst (v := nI 3) d_La_law_277 (by decide) ?_
    refine EV.iadd d_La_law_278 ?_
    refine EV.top (nI_add _ _) ?_
    refine EV.sld d_La_law_279 (nI_in (by omega) (by omega)) ?_
    refine EV.if_eq (tgt := 287) d_La_law_280 (by decide) (fun _ => ?_) (fun q => absurd h3 q)
    refine EV.iconst (v := nI 0) d_La_law_287 (by decide) ?_
    refine EV.V3 cv_La_41 d_La_law_288 rfl (rf_form (b1 := true) (b2 := false) SM93 hM1 hI) ⟨Nat.le_refl _, Nat.le_refl _⟩ rfl rfl (Nat.le_of_ble_eq_true rfl) (fun rv D1 hp => ?_)
    obtain ⟨rfl, hM2, hF2⟩ := hp
    refine EV.icmp_eq (tgt := 470) d_La_law_291 (by decide) (fun _ => ?_) (fun h => absurd rfl h)
    have hsi := si_form hI (mx_xs G (nI (i + 1)).toNatClampNeg) true false
    exact K D1 _ (CI_80 hsi.1 hC1 hF2) hM2 hsi.1 (by have := hsi.2; omega)
  · refine EV.aload_n d_La_law_221 rfl ?_
    refine EV.aload_s d_La_law_222 rfl ?_
    refine EV.iload_n d_La_law_223 rfl ?_
    refine EV.iconst (v := nI 1) d_La_law_224 (by decide) ?_
    refine EV.iadd d_La_law_225 ?_
    refine EV.top (nI_add _ _) ?_
    refine EV.sld d_La_law_226 (nI_in (by omega) (by omega)) ?_
    refine EV.aload_s d_La_law_227 rfl ?_
    refine EV.iload_n d_La_law_228 rfl ?_
    refine EV.iconst (v := nI 2) d_La_law_229 (by decide) ?_
    refine EV.iadd d_La_law_230 ?_
    refine EV.top (nI_add _ _) ?_
    refine EV.sld d_La_law_231 (nI_in (by omega) (by omega)) ?_
    refine EV.if_eq (tgt := 239) d_La_law_232 (by decide) (fun q => absurd q h2) (fun _ => ?_)
    refine EV.iconst (v := nI 1) d_La_law_235 (by decide) ?_
    refine EV.goto (tgt := 240) d_La_law_236 (by decide) ?_
    refine EV.aload_s d_La_law_240 rfl ?_
    refine EV.iload_n d_La_law_241 rfl ?_
    refine EV.iconst (v := nI 3) d_La_law_242 (by decide) ?_
    refine EV.iadd d_La_law_243 ?_
    refine EV.top (nI_add _ _) ?_
    refine EV.sld d_La_law_244 (nI_in (by omega) (by omega)) ?_
    refine EV.if_eq (tgt := 252) d_La_law_245 (by decide) (fun q => absurd q h3) (fun _ => ?_)
    refine EV.iconst (v := nI 1) d_La_law_248 (by decide) ?_
    refine EV.goto (tgt := 253) d_La_law_249 (by decide) ?_
    refine EV.V3 cv_La_37 d_La_law_253 rfl (cl_form (b1 := true) (b2 := true) SH93 hC hI) ⟨Nat.le_refl _, Nat.le_refl _⟩ rfl rfl (Nat.le_of_ble_eq_true rfl) (fun rv D1 hp => ?_)
    obtain ⟨rfl, hC1, hF1⟩ := hp
    have hM1 := MI_80 hM hF1
    refine EV.aload_n d_La_law_256 rfl ?_
    refine EV.aload_s d_La_law_257 rfl ?_
    refine EV.iload_n d_La_law_258 rfl ?_
    refine EV.iconst (v := nI 1) d_La_law_259 (by decide) ?_
    refine EV.iadd d_La_law_260 ?_
    refine EV.top (nI_add _ _) ?_
    refine EV.sld d_La_law_261 (nI_in (by omega) (by omega)) ?_
    refine EV.aload_s d_La_law_262 rfl ?_
    refine EV.iload_n d_La_law_263 rfl ?_
    refine EV.iconst (v := nI 2) d_La_law_264 (by decide) ?_
    refine EV.iadd d_La_law_265 ?_
    refine EV.top (nI_add _ _) ?_
    refine EV.sld d_La_law_266 (nI_in (by omega) (by omega)) ?_
    refine EV.if_eq (tgt := 274) d_La_law_267 (by decide) (fun q => absurd q h2) (fun _ => ?_)
    refine EV.iconst (v := nI 1) d_La_law_270 (by decide) ?_
    refine EV.goto (tgt := 275) d_La_law_271 (by decide) ?_
    refine EV.aload_s d_La_law_275 rfl ?_
    refine EV.iload_n d_La_law_276 rfl ?_
    refine EV.iconst (v := nI 3) d_La_law_277 (by decide) ?_
    refine EV.iadd d_La_law_278 ?_
    refine EV.top (nI_add _ _) ?_
    refine EV.sld d_La_law_279 (nI_in (by omega) (by omega)) ?_
    refine EV.if_eq (tgt := 287) d_La_law_280 (by decide) (fun q => absurd q h3) (fun _ => ?_)
    refine EV.iconst (v := nI 1) d_La_law_283 (by decide) ?_
    refine EV.goto (tgt := 288) d_La_law_284 (by decide) ?_
    refine EV.V3 cv_La_41 d_La_law_288 rfl (rf_form (b1 := true) (b2 := true) SM93 hM1 hI) ⟨Nat.le_refl _, Nat.le_refl _⟩ rfl rfl (Nat.le_of_ble_eq_true rfl) (fun rv D1 hp => ?_)
    obtain ⟨rfl, hM2, hF2⟩ := hp
    refine EV.icmp_eq (tgt := 470) d_La_law_291 (by decide) (fun _ => ?_) (fun h => absurd rfl h)
    have hsi := si_form hI (mx_xs G (nI (i + 1)).toNatClampNeg) true true
    exact K D1 _ (CI_80 hsi.1 hC1 hF2) hM2 hsi.1 (by have := hsi.2; omega)
set_option maxHeartbeats 4000000 in
set_option maxRecDepth 100000 in
theorem la_6 {G : mx_G} {i : Nat} {D : mx_Mem} {σ : sg} (hL : mx_L G ≤ 2048) (hi : i + 4 ≤ mx_L G) (hC : CI D σ) (hM : MI D σ) (hI : SI σ) (hN : σ.2.2.2.2 ≤ 2 ^ 31) (K : ∀ (D2 : mx_Mem) (σ2 : sg), CI D2 σ2 → MI D2 σ2 → SI σ2 → σ2.2.2.2.2 ≤ σ.2.2.2.2 + 1 → EV G 9 m_La_law 470 [some (.retAddr 0), some (.ref 0), some (.ref 80), some (.int (nI i))] [] sh93 D2 sh93 (fun rv _ => rv = some (.int 1))) : EV G 9 m_La_law 296 [some (.retAddr 0), some (.ref 0), some (.ref 80), some (.int (nI i))] [] sh93 D sh93 (fun rv _ => rv = some (.int 1)) := by
  refine EV.aload_n d_La_law_296 rfl ?_
  refine EV.aload_s d_La_law_297 rfl ?_
  refine EV.iload_n d_La_law_298 rfl ?_
  refine EV.iconst (v := nI 1) d_La_law_299 (by decide) ?_
  refine EV.iadd d_La_law_300 ?_
  refine EV.top (nI_add _ _) ?_
  refine EV.sld d_La_law_301 (nI_in (by omega) (by omega)) ?_
  refine EV.V1 cv_La_42 d_La_law_302 rfl (cl_klen SH93 hC hI) ⟨Nat.le_refl _, Nat.le_refl _⟩ rfl rfl (Nat.le_of_ble_eq_true rfl) (fun rv D1 hp => ?_)
  obtain ⟨rfl, hC1, hF1⟩ := hp
  have hM1 := MI_80 hM hF1
  refine EV.aload_n d_La_law_305 rfl ?_
  refine EV.aload_s d_La_law_306 rfl ?_
  refine EV.iload_n d_La_law_307 rfl ?_
  refine EV.iconst (v := nI 1) d_La_law_308 (by decide) ?_
  refine EV.iadd d_La_law_309 ?_
  refine EV.top (nI_add _ _) ?_
  refine EV.sld d_La_law_310 (nI_in (by omega) (by omega)) ?_
  refine EV.V1 cv_La_45 d_La_law_311 rfl (rf_klen SM93 hM1 hI) ⟨Nat.le_refl _, Nat.le_refl _⟩ rfl rfl (Nat.le_of_ble_eq_true rfl) (fun rv D1 hp => ?_)
  obtain ⟨rfl, hM2, hF2⟩ := hp
  refine EV.icmp_eq (tgt := 470) d_La_law_314 (by decide) (fun _ => ?_) (fun h => absurd rfl h)
  exact K D1 σ (CI_80 hI hC1 hF2) hM2 hI (by omega)
set_option maxHeartbeats 4000000 in
set_option maxRecDepth 100000 in
theorem la_7 {G : mx_G} {i : Nat} {D : mx_Mem} {σ : sg} (hL : mx_L G ≤ 2048) (hi : i + 4 ≤ mx_L G) (hC : CI D σ) (hM : MI D σ) (hI : SI σ) (hN : σ.2.2.2.2 ≤ 2 ^ 31) (K : ∀ (D2 : mx_Mem) (σ2 : sg), CI D2 σ2 → MI D2 σ2 → SI σ2 → σ2.2.2.2.2 ≤ σ.2.2.2.2 + 1 → EV G 9 m_La_law 470 [some (.retAddr 0), some (.ref 0), some (.ref 80), some (.int (nI i))] [] sh93 D2 sh93 (fun rv _ => rv = some (.int 1))) : EV G 9 m_La_law 319 [some (.retAddr 0), some (.ref 0), some (.ref 80), some (.int (nI i))] [] sh93 D sh93 (fun rv _ => rv = some (.int 1)) := by
  refine EV.aload_n d_La_law_319 rfl ?_
  refine EV.aload_s d_La_law_320 rfl ?_
  refine EV.iload_n d_La_law_321 rfl ?_
  refine EV.iconst (v := nI 1) d_La_law_322 (by decide) ?_
  refine EV.iadd d_La_law_323 ?_
  refine EV.top (nI_add _ _) ?_
  refine EV.sld d_La_law_324 (nI_in (by omega) (by omega)) ?_
  refine EV.aload_s d_La_law_325 rfl ?_
  refine EV.iload_n d_La_law_326 rfl ?_
  refine EV.iconst (v := nI 2) d_La_law_327 (by decide) ?_
  refine EV.iadd d_La_law_328 ?_
  refine EV.top (nI_add _ _) ?_
  refine EV.sld d_La_law_329 (nI_in (by omega) (by omega)) ?_
  refine EV.V2 cv_La_46 d_La_law_330 rfl (cl_kat SH93 hC hI) ⟨Nat.le_refl _, Nat.le_refl _⟩ rfl rfl (Nat.le_of_ble_eq_true rfl) (fun rv D1 hp => ?_)
  obtain ⟨rfl, hC1, hF1⟩ := hp
  have hM1 := MI_80 hM hF1
  refine EV.aload_n d_La_law_333 rfl ?_
  refine EV.aload_s d_La_law_334 rfl ?_
  refine EV.iload_n d_La_law_335 rfl ?_
  refine EV.iconst (v := nI 1) d_La_law_336 (by decide) ?_
  refine EV.iadd d_La_law_337 ?_
  refine EV.top (nI_add _ _) ?_
  refine EV.sld d_La_law_338 (nI_in (by omega) (by omega)) ?_
  refine EV.aload_s d_La_law_339 rfl ?_
  refine EV.iload_n d_La_law_340 rfl ?_
  refine EV.iconst (v := nI 2) d_La_law_341 (by decide) ?_
  refine EV.iadd d_La_law_342 ?_
  refine EV.top (nI_add _ _) ?_
  refine EV.sld d_La_law_343 (nI_in (by omega) (by omega)) ?_
  refine EV.V2 cv_La_49 d_La_law_344 rfl (rf_kat SM93 hM1 hI) ⟨Nat.le_refl _, Nat.le_refl _⟩ rfl rfl (Nat.le_of_ble_eq_true rfl) (fun rv D1 hp => ?_)
  obtain ⟨rfl, hM2, hF2⟩ := hp
  refine EV.icmp_eq (tgt := 470) d_La_law_347 (by decide) (fun _ => ?_) (fun h => absurd rfl h)
  exact K D1 σ (CI_80 hI hC1 hF2) hM2 hI (by omega)
set_option maxHeartbeats 4000000 in
set_option maxRecDepth 100000 in
theorem la_8 {G : mx_G} {i : Nat} {D : mx_Mem} {σ : sg} (hL : mx_L G ≤ 2048) (hi : i + 4 ≤ mx_L G) (hC : CI D σ) (hM : MI D σ) (hI : SI σ) (hN : σ.2.2.2.2 ≤ 2 ^ 31) (K : ∀ (D2 : mx_Mem) (σ2 : sg), CI D2 σ2 → MI D2 σ2 → SI σ2 → σ2.2.2.2.2 ≤ σ.2.2.2.2 + 1 → EV G 9 m_La_law 470 [some (.retAddr 0), some (.ref 0), some (.ref 80), some (.int (nI i))] [] sh93 D2 sh93 (fun rv _ => rv = some (.int 1))) : EV G 9 m_La_law 352 [some (.retAddr 0), some (.ref 0), some (.ref 80), some (.int (nI i))] [] sh93 D sh93 (fun rv _ => rv = some (.int 1)) := by
  refine EV.aload_n d_La_law_352 rfl ?_
  refine EV.V0 cv_La_50 d_La_law_353 rfl (cl_cmp SH93 hC hI) ⟨Nat.le_refl _, Nat.le_refl _⟩ rfl rfl (Nat.le_of_ble_eq_true rfl) (fun rv D1 hp => ?_)
  obtain ⟨rfl, hC1, hF1⟩ := hp
  have hM1 := MI_80 hM hF1
  refine EV.aload_n d_La_law_356 rfl ?_
  refine EV.V0 cv_La_53 d_La_law_357 rfl (rf_cmp SM93 hM1 hI) ⟨Nat.le_refl _, Nat.le_refl _⟩ rfl rfl (Nat.le_of_ble_eq_true rfl) (fun rv D1 hp => ?_)
  obtain ⟨rfl, hM2, hF2⟩ := hp
  refine EV.icmp_eq (tgt := 470) d_La_law_360 (by decide) (fun _ => ?_) (fun h => absurd rfl h)
  exact K D1 σ (CI_80 hI hC1 hF2) hM2 hI (by omega)
set_option maxHeartbeats 4000000 in
set_option maxRecDepth 100000 in
theorem la_9 {G : mx_G} {i : Nat} {D : mx_Mem} {σ : sg} (hL : mx_L G ≤ 2048) (hi : i + 4 ≤ mx_L G) (hC : CI D σ) (hM : MI D σ) (hI : SI σ) (hN : σ.2.2.2.2 ≤ 2 ^ 31) (K : ∀ (D2 : mx_Mem) (σ2 : sg), CI D2 σ2 → MI D2 σ2 → SI σ2 → σ2.2.2.2.2 ≤ σ.2.2.2.2 + 1 → EV G 9 m_La_law 470 [some (.retAddr 0), some (.ref 0), some (.ref 80), some (.int (nI i))] [] sh93 D2 sh93 (fun rv _ => rv = some (.int 1))) : EV G 9 m_La_law 365 [some (.retAddr 0), some (.ref 0), some (.ref 80), some (.int (nI i))] [] sh93 D sh93 (fun rv _ => rv = some (.int 1)) := by
  refine EV.aload_n d_La_law_365 rfl ?_
  refine EV.aload_s d_La_law_366 rfl ?_
  refine EV.iload_n d_La_law_367 rfl ?_
  refine EV.iconst (v := nI 1) d_La_law_368 (by decide) ?_
  refine EV.iadd d_La_law_369 ?_
  refine EV.top (nI_add _ _) ?_
  refine EV.sld d_La_law_370 (nI_in (by omega) (by omega)) ?_
  refine EV.V1 cv_La_54 d_La_law_371 rfl (cl_file SH93 hC hI) ⟨Nat.le_refl _, Nat.le_refl _⟩ rfl rfl (Nat.le_of_ble_eq_true rfl) (fun rv D1 hp => ?_)
  obtain ⟨rfl, hC1, hF1⟩ := hp
  have hM1 := MI_80 hM hF1
  refine EV.aload_n d_La_law_374 rfl ?_
  refine EV.aload_s d_La_law_375 rfl ?_
  refine EV.iload_n d_La_law_376 rfl ?_
  refine EV.iconst (v := nI 1) d_La_law_377 (by decide) ?_
  refine EV.iadd d_La_law_378 ?_
  refine EV.top (nI_add _ _) ?_
  refine EV.sld d_La_law_379 (nI_in (by omega) (by omega)) ?_
  refine EV.V1 cv_La_57 d_La_law_380 rfl (rf_file SM93 hM1 hI) ⟨Nat.le_refl _, Nat.le_refl _⟩ rfl rfl (Nat.le_of_ble_eq_true rfl) (fun rv D1 hp => ?_)
  obtain ⟨rfl, hM2, hF2⟩ := hp
  refine EV.icmp_eq (tgt := 470) d_La_law_383 (by decide) (fun _ => ?_) (fun h => absurd rfl h)
  have hsi := si_file hI (mx_xs G (nI (i + 1)).toNatClampNeg)
  exact K D1 _ (CI_80 hsi.1 hC1 hF2) hM2 hsi.1 (by have := hsi.2; omega)
set_option maxHeartbeats 4000000 in
set_option maxRecDepth 100000 in
theorem la_10 {G : mx_G} {i : Nat} {D : mx_Mem} {σ : sg} (hL : mx_L G ≤ 2048) (hi : i + 4 ≤ mx_L G) (hC : CI D σ) (hM : MI D σ) (hI : SI σ) (hN : σ.2.2.2.2 ≤ 2 ^ 31) (K : ∀ (D2 : mx_Mem) (σ2 : sg), CI D2 σ2 → MI D2 σ2 → SI σ2 → σ2.2.2.2.2 ≤ σ.2.2.2.2 + 1 → EV G 9 m_La_law 470 [some (.retAddr 0), some (.ref 0), some (.ref 80), some (.int (nI i))] [] sh93 D2 sh93 (fun rv _ => rv = some (.int 1))) : EV G 9 m_La_law 388 [some (.retAddr 0), some (.ref 0), some (.ref 80), some (.int (nI i))] [] sh93 D sh93 (fun rv _ => rv = some (.int 1)) := by
  refine EV.aload_n d_La_law_388 rfl ?_
  refine EV.aload_s d_La_law_389 rfl ?_
  refine EV.iload_n d_La_law_390 rfl ?_
  refine EV.iconst (v := nI 1) d_La_law_391 (by decide) ?_
  refine EV.iadd d_La_law_392 ?_
  refine EV.top (nI_add _ _) ?_
  refine EV.sld d_La_law_393 (nI_in (by omega) (by omega)) ?_
  refine EV.V1 cv_La_58 d_La_law_394 rfl (cl_unf SH93 hC hI) ⟨Nat.le_refl _, Nat.le_refl _⟩ rfl rfl (Nat.le_of_ble_eq_true rfl) (fun rv D1 hp => ?_)
  obtain ⟨rfl, hC1, hF1⟩ := hp
  have hM1 := MI_80 hM hF1
  refine EV.aload_n d_La_law_397 rfl ?_
  refine EV.aload_s d_La_law_398 rfl ?_
  refine EV.iload_n d_La_law_399 rfl ?_
  refine EV.iconst (v := nI 1) d_La_law_400 (by decide) ?_
  refine EV.iadd d_La_law_401 ?_
  refine EV.top (nI_add _ _) ?_
  refine EV.sld d_La_law_402 (nI_in (by omega) (by omega)) ?_
  refine EV.V1 cv_La_62 d_La_law_403 rfl (rf_unf SM93 hM1 hI hN) ⟨Nat.le_refl _, Nat.le_refl _⟩ rfl rfl (Nat.le_of_ble_eq_true rfl) (fun rv D1 hp => ?_)
  obtain ⟨rfl, hM2, hF2⟩ := hp
  refine EV.icmp_eq (tgt := 470) d_La_law_406 (by decide) (fun _ => ?_) (fun h => absurd rfl h)
  have hsi := si_unf hI (mx_xs G (nI (i + 1)).toNatClampNeg)
  exact K D1 _ (CI_80 hsi.1 hC1 hF2) hM2 hsi.1 (by have := hsi.2; omega)
set_option maxHeartbeats 4000000 in
set_option maxRecDepth 100000 in
theorem la_11 {G : mx_G} {i : Nat} {D : mx_Mem} {σ : sg} (hL : mx_L G ≤ 2048) (hi : i + 4 ≤ mx_L G) (hC : CI D σ) (hM : MI D σ) (hI : SI σ) (hN : σ.2.2.2.2 ≤ 2 ^ 31) (K : ∀ (D2 : mx_Mem) (σ2 : sg), CI D2 σ2 → MI D2 σ2 → SI σ2 → σ2.2.2.2.2 ≤ σ.2.2.2.2 + 1 → EV G 9 m_La_law 470 [some (.retAddr 0), some (.ref 0), some (.ref 80), some (.int (nI i))] [] sh93 D2 sh93 (fun rv _ => rv = some (.int 1))) : EV G 9 m_La_law 411 [some (.retAddr 0), some (.ref 0), some (.ref 80), some (.int (nI i))] [] sh93 D sh93 (fun rv _ => rv = some (.int 1)) := by
  refine EV.aload_n d_La_law_411 rfl ?_
  refine EV.V0 cv_La_63 d_La_law_412 rfl (cl_filed SH93 hC hI) ⟨Nat.le_refl _, Nat.le_refl _⟩ rfl rfl (Nat.le_of_ble_eq_true rfl) (fun rv D1 hp => ?_)
  obtain ⟨rfl, hC1, hF1⟩ := hp
  have hM1 := MI_80 hM hF1
  refine EV.aload_n d_La_law_415 rfl ?_
  refine EV.V0 cv_La_66 d_La_law_416 rfl (rf_filed SM93 hM1 hI) ⟨Nat.le_refl _, Nat.le_refl _⟩ rfl rfl (Nat.le_of_ble_eq_true rfl) (fun rv D1 hp => ?_)
  obtain ⟨rfl, hM2, hF2⟩ := hp
  refine EV.icmp_eq (tgt := 470) d_La_law_419 (by decide) (fun _ => ?_) (fun h => absurd rfl h)
  exact K D1 σ (CI_80 hI hC1 hF2) hM2 hI (by omega)
set_option maxHeartbeats 4000000 in
set_option maxRecDepth 100000 in
theorem la_12 {G : mx_G} {i : Nat} {D : mx_Mem} {σ : sg} (hL : mx_L G ≤ 2048) (hi : i + 4 ≤ mx_L G) (hC : CI D σ) (hM : MI D σ) (hI : SI σ) (hN : σ.2.2.2.2 ≤ 2 ^ 31) (K : ∀ (D2 : mx_Mem) (σ2 : sg), CI D2 σ2 → MI D2 σ2 → SI σ2 → σ2.2.2.2.2 ≤ σ.2.2.2.2 + 1 → EV G 9 m_La_law 470 [some (.retAddr 0), some (.ref 0), some (.ref 80), some (.int (nI i))] [] sh93 D2 sh93 (fun rv _ => rv = some (.int 1))) : EV G 9 m_La_law 424 [some (.retAddr 0), some (.ref 0), some (.ref 80), some (.int (nI i))] [] sh93 D sh93 (fun rv _ => rv = some (.int 1)) := by
  refine EV.aload_n d_La_law_424 rfl ?_
  refine EV.aload_s d_La_law_425 rfl ?_
  refine EV.iload_n d_La_law_426 rfl ?_
  refine EV.iconst (v := nI 1) d_La_law_427 (by decide) ?_
  refine EV.iadd d_La_law_428 ?_
  refine EV.top (nI_add _ _) ?_
  refine EV.sld d_La_law_429 (nI_in (by omega) (by omega)) ?_
  refine EV.V1 cv_La_67 d_La_law_430 rfl (cl_ord SH93 hC hI) ⟨Nat.le_refl _, Nat.le_refl _⟩ rfl rfl (Nat.le_of_ble_eq_true rfl) (fun rv D1 hp => ?_)
  obtain ⟨rfl, hC1, hF1⟩ := hp
  have hM1 := MI_80 hM hF1
  refine EV.aload_n d_La_law_433 rfl ?_
  refine EV.aload_s d_La_law_434 rfl ?_
  refine EV.iload_n d_La_law_435 rfl ?_
  refine EV.iconst (v := nI 1) d_La_law_436 (by decide) ?_
  refine EV.iadd d_La_law_437 ?_
  refine EV.top (nI_add _ _) ?_
  refine EV.sld d_La_law_438 (nI_in (by omega) (by omega)) ?_
  refine EV.V1 cv_La_70 d_La_law_439 rfl (rf_ord SM93 hM1 hI) ⟨Nat.le_refl _, Nat.le_refl _⟩ rfl rfl (Nat.le_of_ble_eq_true rfl) (fun rv D1 hp => ?_)
  obtain ⟨rfl, hM2, hF2⟩ := hp
  refine EV.icmp_eq (tgt := 470) d_La_law_442 (by decide) (fun _ => ?_) (fun h => absurd rfl h)
  exact K D1 σ (CI_80 hI hC1 hF2) hM2 hI (by omega)
set_option maxHeartbeats 4000000 in
set_option maxRecDepth 100000 in
theorem la_13 {G : mx_G} {i : Nat} {D : mx_Mem} {σ : sg} (hL : mx_L G ≤ 2048) (hi : i + 4 ≤ mx_L G) (hC : CI D σ) (hM : MI D σ) (hI : SI σ) (hN : σ.2.2.2.2 ≤ 2 ^ 31) (K : ∀ (D2 : mx_Mem) (σ2 : sg), CI D2 σ2 → MI D2 σ2 → SI σ2 → σ2.2.2.2.2 ≤ σ.2.2.2.2 + 1 → EV G 9 m_La_law 470 [some (.retAddr 0), some (.ref 0), some (.ref 80), some (.int (nI i))] [] sh93 D2 sh93 (fun rv _ => rv = some (.int 1))) : EV G 9 m_La_law 447 [some (.retAddr 0), some (.ref 0), some (.ref 80), some (.int (nI i))] [] sh93 D sh93 (fun rv _ => rv = some (.int 1)) := by
  refine EV.aload_n d_La_law_447 rfl ?_
  refine EV.aload_s d_La_law_448 rfl ?_
  refine EV.iload_n d_La_law_449 rfl ?_
  refine EV.iconst (v := nI 1) d_La_law_450 (by decide) ?_
  refine EV.iadd d_La_law_451 ?_
  refine EV.top (nI_add _ _) ?_
  refine EV.sld d_La_law_452 (nI_in (by omega) (by omega)) ?_
  refine EV.V1 cv_La_71 d_La_law_453 rfl (cl_bel SH93 hC hI) ⟨Nat.le_refl _, Nat.le_refl _⟩ rfl rfl (Nat.le_of_ble_eq_true rfl) (fun rv D1 hp => ?_)
  obtain ⟨rfl, hC1, hF1⟩ := hp
  have hM1 := MI_80 hM hF1
  refine EV.aload_n d_La_law_456 rfl ?_
  refine EV.aload_s d_La_law_457 rfl ?_
  refine EV.iload_n d_La_law_458 rfl ?_
  refine EV.iconst (v := nI 1) d_La_law_459 (by decide) ?_
  refine EV.iadd d_La_law_460 ?_
  refine EV.top (nI_add _ _) ?_
  refine EV.sld d_La_law_461 (nI_in (by omega) (by omega)) ?_
  refine EV.V1 cv_La_74 d_La_law_462 rfl (rf_bel SM93 hM1 hI) ⟨Nat.le_refl _, Nat.le_refl _⟩ rfl rfl (Nat.le_of_ble_eq_true rfl) (fun rv D1 hp => ?_)
  obtain ⟨rfl, hM2, hF2⟩ := hp
  refine EV.icmp_eq (tgt := 470) d_La_law_465 (by decide) (fun _ => ?_) (fun h => absurd rfl h)
  exact K D1 σ (CI_80 hI hC1 hF2) hM2 hI (by omega)
set_option maxHeartbeats 4000000 in
set_option maxRecDepth 100000 in
theorem lp_La {G : mx_G} (hL : mx_L G ≤ 2048) : ∀ (m i : Nat) (D : mx_Mem) (σ : sg), mx_L G + 4 - i ≤ m → i ≤ mx_L G → CI D σ → MI D σ → SI σ → σ.2.2.2.2 ≤ i → EV G 9 m_La_law 18 [some (.retAddr 0), some (.ref 0), some (.ref 80), some (.int (nI i))] [] sh93 D sh93 (fun rv _ => rv = some (.int 1)) := by
  intro m
  induction m with
  | zero => intro i D σ h1 h2; omega
  | succ m ih =>
    intro i D σ h1 h2 hC hM hI hN
    by_cases hx : i + 4 ≤ mx_L G
    · have K : ∀ (D2 : mx_Mem) (σ2 : sg), CI D2 σ2 → MI D2 σ2 → SI σ2 → σ2.2.2.2.2 ≤ σ.2.2.2.2 + 1 → EV G 9 m_La_law 470 [some (.retAddr 0), some (.ref 0), some (.ref 80), some (.int (nI i))] [] sh93 D2 sh93 (fun rv _ => rv = some (.int 1)) := by
        intro D2 σ2 a b c e
        refine EV.iinc (v := nI (i + 4)) d_La_law_470 rfl (nI_add i 4) (by decide) ?_
        refine EV.goto (tgt := 18) d_La_law_473 (by decide) ?_
        exact ih (i + 4) D2 σ2 (by omega) (by omega) a b c (by omega)
      refine EV.iload_n d_La_law_18 rfl ?_
      refine EV.aload_s d_La_law_19 rfl ?_
      refine EV.slen (v := nI (mx_L G)) d_La_law_20 rfl ?_
      refine EV.iconst (v := nI 4) d_La_law_21 (by decide) ?_
      refine EV.isub d_La_law_22 ?_
      refine EV.top (pk_sub (by omega)) ?_
      refine EV.icmp_gtN (tgt := 476) d_La_law_23 (by decide) rfl rfl (by omega) (by omega) (fun h => absurd h (by omega)) (fun _ => ?_)
      refine EV.aload_s d_La_law_26 rfl ?_
      refine EV.iload_n d_La_law_27 rfl ?_
      refine EV.sld d_La_law_28 (nI_in (by omega) (by omega)) ?_
      refine EV.bipush (v := nI 15) d_La_law_29 (by decide) ?_
      refine EV.iand d_La_law_31 ?_
      obtain ⟨j, hj, hjx⟩ := pk_andE (mx_xs G (nI i).toNatClampNeg) (m := nI 15) 4 (by decide)
      refine EV.top hjx ?_
      rcases (show j = 0 ∨ j = 1 ∨ j = 2 ∨ j = 3 ∨ j = 4 ∨ j = 5 ∨ j = 6 ∨ j = 7 ∨ j = 8 ∨ j = 9 ∨ j = 10 ∨ j = 11 ∨ j = 12 ∨ j = 13 ∨ j = 14 ∨ j = 15 by omega) with rfl | rfl | rfl | rfl | rfl | rfl | rfl | rfl | rfl | rfl | rfl | rfl | rfl | rfl | rfl | rfl
      · refine EV.tIn (off := 72) (tgt := 104) d_La_law_32 (by decide) (by decide) (by decide) (by decide) ?_
        exact la_0 hL hx hC hM hI (by omega) K
      · refine EV.tIn (off := 107) (tgt := 139) d_La_law_32 (by decide) (by decide) (by decide) (by decide) ?_
        exact la_1 hL hx hC hM hI (by omega) K
      · refine EV.tIn (off := 130) (tgt := 162) d_La_law_32 (by decide) (by decide) (by decide) (by decide) ?_
        exact la_2 hL hx hC hM hI (by omega) K
      · refine EV.tIn (off := 143) (tgt := 175) d_La_law_32 (by decide) (by decide) (by decide) (by decide) ?_
        exact la_3 hL hx hC hM hI (by omega) K
      · refine EV.tIn (off := 156) (tgt := 188) d_La_law_32 (by decide) (by decide) (by decide) (by decide) ?_
        exact la_4 hL hx hC hM hI (by omega) K
      · refine EV.tIn (off := 189) (tgt := 221) d_La_law_32 (by decide) (by decide) (by decide) (by decide) ?_
        exact la_5 hL hx hC hM hI (by omega) K
      · refine EV.tIn (off := 264) (tgt := 296) d_La_law_32 (by decide) (by decide) (by decide) (by decide) ?_
        exact la_6 hL hx hC hM hI (by omega) K
      · refine EV.tIn (off := 287) (tgt := 319) d_La_law_32 (by decide) (by decide) (by decide) (by decide) ?_
        exact la_7 hL hx hC hM hI (by omega) K
      · refine EV.tIn (off := 320) (tgt := 352) d_La_law_32 (by decide) (by decide) (by decide) (by decide) ?_
        exact la_8 hL hx hC hM hI (by omega) K
      · refine EV.tIn (off := 333) (tgt := 365) d_La_law_32 (by decide) (by decide) (by decide) (by decide) ?_
        exact la_9 hL hx hC hM hI (by omega) K
      · refine EV.tIn (off := 356) (tgt := 388) d_La_law_32 (by decide) (by decide) (by decide) (by decide) ?_
        exact la_10 hL hx hC hM hI (by omega) K
      · refine EV.tIn (off := 379) (tgt := 411) d_La_law_32 (by decide) (by decide) (by decide) (by decide) ?_
        exact la_11 hL hx hC hM hI (by omega) K
      · refine EV.tIn (off := 392) (tgt := 424) d_La_law_32 (by decide) (by decide) (by decide) (by decide) ?_
        exact la_12 hL hx hC hM hI (by omega) K
      · refine EV.tIn (off := 415) (tgt := 447) d_La_law_32 (by decide) (by decide) (by decide) (by decide) ?_
        exact la_13 hL hx hC hM hI (by omega) K
      · refine EV.tOut (tgt := 470) d_La_law_32 (Or.inr (by decide)) (by decide) ?_
        exact K D σ hC hM hI (by omega)
      · refine EV.tOut (tgt := 470) d_La_law_32 (Or.inr (by decide)) (by decide) ?_
        exact K D σ hC hM hI (by omega)
    · have hlt : nI (mx_L G) - nI 4 < nI i := la_lt hL (by omega) h2
      refine EV.iload_n d_La_law_18 rfl ?_
      refine EV.aload_s d_La_law_19 rfl ?_
      refine EV.slen (v := nI (mx_L G)) d_La_law_20 rfl ?_
      refine EV.iconst (v := nI 4) d_La_law_21 (by decide) ?_
      refine EV.isub d_La_law_22 ?_
      refine EV.icmp_gt (tgt := 476) d_La_law_23 (by decide) (fun _ => ?_) (fun h => absurd hlt h)
      refine EV.iconst (v := nI 1) d_La_law_476 (by decide) ?_
      exact EV.ireturn d_La_law_477 ⟨_, rfl, rfl⟩ rfl
set_option maxHeartbeats 4000000 in
set_option maxRecDepth 100000 in
theorem la_all {G : mx_G} {D : mx_Mem} (hL : mx_L G ≤ 2048) : EV G 9 m_La_law 0 (mx_lc0 m_La_law [.retAddr 0]) [] [] D sh93 (fun rv _ => rv = some (.int 1)) := by
  show EV _ _ _ _ [some (.retAddr 0), none, none, none] [] _ _ _ _
  refine EV.newL (a := 0) (S2 := [.inl (6, [some none, some none, some none, some none, some none, some none, some none])]) (ci := 6) (fs := [some none, some none, some none, some none, some none, some none, some none]) (by decide +kernel) (by decide +kernel) rfl ⟨(mx_in 52 (by decide +kernel) (by decide +kernel)), (mx_in 53 (by decide +kernel) (by decide +kernel)), (mx_in 42 (by decide +kernel) (by decide +kernel))⟩ nw_6 d_La_law_0 ?_
  refine EV.dup d_La_law_3 rfl ?_
  refine EV.I0 ci_La_9 d_La_law_4 (in_To) ⟨by decide +kernel, by decide +kernel⟩ rfl rfl (Nat.le_of_ble_eq_true rfl) (fun rv D1 hp => ?_)
  obtain ⟨rfl, hC⟩ := hp
  refine EV.shp (S2 := sh80) (by decide +kernel) ?_
  refine EV.astore_n d_La_law_7 (by decide) ?_
  refine EV.newL (a := 80) (S2 := sh80 ++ [.inl (7, [none, some none, some none, none, some none, some none, some none, none, some none, some none, some none, none, none, none, none, none, some none, none, some none, none, none, some none, some none])]) (ci := 7) (fs := [none, some none, some none, none, some none, some none, some none, none, some none, some none, some none, none, none, none, none, none, some none, none, some none, none, none, some none, some none]) (by decide +kernel) (by decide +kernel) rfl ⟨(mx_in 509 (by decide +kernel) (by decide +kernel)), (mx_in 510 (by decide +kernel) (by decide +kernel)), (mx_in 49 (by decide +kernel) (by decide +kernel))⟩ nw_7 d_La_law_8 ?_
  refine EV.dup d_La_law_11 rfl ?_
  refine EV.I0 ci_La_12 d_La_law_12 (in_Mo (fun j => by simp [mx_z, va_up])) ⟨by decide +kernel, by decide +kernel⟩ rfl rfl (Nat.le_of_ble_eq_true rfl) (fun rv D1 hp => ?_)
  obtain ⟨rfl, hF, hM⟩ := hp
  refine EV.astore_n d_La_law_15 (by decide) ?_
  refine EV.iconst (v := nI 0) d_La_law_16 (by decide) ?_
  refine EV.istore_n d_La_law_17 (by decide) ?_
  exact lp_La hL (mx_L G + 4) 0 D1 σ0 (by omega) (by omega) (CI_80 si_0 hC (fun q hq => by rw [hF q hq]; simp only [mx_z, va_up]; rw [if_neg (by omega)])) hM si_0 (by decide)
