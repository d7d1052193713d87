abbrev mL : XMt := (⟨RL, "law", ""⟩, cL_law, 4, ret)
def LX (w : XO) (b L : Nat) (xs : Nat → Int32) : Prop := match w with
  | (_, _, _, _, s, _, _, _, _, _, A, _, _, _) => va_X b L xs s s.heap ∧ b < s.heap.size ∧ ¬ A b
section LR
variable {d : Nat} {w : XO} {E : XEnv} {μ : XMt} {pc b L : Nat} {xs : Nat → Int32} {lv : List (Option Value)} {r : List Value} {σ : XSt}
theorem xr_slen (lx : LX w b L xs) (cx : CX d w E μ) (hd : decode μ.2.1 pc = .ok (.arraylength, 1)) (kk : XG w E (pc + 1) lv (.int (nI L) :: r) σ) : XG w E pc lv (.ref b :: r) σ := by
  obtain ⟨p, l, e, R, s, m, args, below, meth, c, A, cells, slots, Z⟩ := w
  intro H locs ls hP hS hl
  exact va_slen cx.1 cx.2.1 lx.1 lx.2.1 lx.2.2 hS hd (kk H locs ls hP hS hl)
theorem xr_sld {i : Int32} {j : Nat} (lx : LX w b L xs) (cx : CX d w E μ) (hd : decode μ.2.1 pc = .ok (.iaload, 1)) (hi : i = nI j) (hj : j < L ∧ L ≤ 1536) (kk : XG w E (pc + 1) lv (.int (xs j) :: r) σ) : XG w E pc lv (.int i :: .ref b :: r) σ := by
  obtain ⟨p, l, e, R, s, m, args, below, meth, c, A, cells, slots, Z⟩ := w
  subst hi
  intro H locs ls hP hS hl
  refine va_sld cx.1 cx.2.1 lx.1 lx.2.1 lx.2.2 hS (vp_in_nI hj.1 (by omega)) hd ?_
  rw [nI_clamp (by omega)]
  exact kk H locs ls hP hS hl
end LR
/-- both sides stand at the same lecture, history, snapshot and text -/
def LInv (σ : XSt) : Prop := ∃ (a : Nat → Int32) (hl : List (Nat → Int32)) (sn : Option (Nat → Int32)) (t : Nat → Int32) (L : Nat), CRel σ a hl sn ∧ MRel σ a hl sn t L ∧ σ 158 3 = nI L ∧ ∀ i, i < L → σ 163 i = t i
section LI
variable {σ τ ρ : XSt} {a c : Nat → Int32} {hl : List (Nat → Int32)} {sn : Option (Nat → Int32)} {t : Nat → Int32} {L : Nat}
theorem LI_M {q : Option (Nat → Int32)} (h : CAct σ τ a hl sn q) (hM : MRel σ a hl sn t L) : MRel τ a hl sn t L := by
  cases q with
  | none => rw [show τ = σ from h]; exact hM
  | some c => exact MRel_c hM (fun k hk => h.2 k (Or.inl hk))
theorem LI_act {q : Option (Nat → Int32)} (hC : CRel σ a hl sn) (hL : σ 158 3 = nI L) (ht : ∀ i, i < L → σ 163 i = t i) (hA : CAct σ τ a hl sn q) (hB : MAct τ ρ a hl sn t L q) : LInv ρ := by
  cases q with
  | none =>
    have e : τ = σ := hA
    subst e
    exact ⟨a, hl, sn, t, L, CRel_fr hC (fun k h1 _ _ => hB.2 k h1), hB.1, by rw [hB.2 158 (by decide)]; exact hL, fun i hi => by rw [hB.2 163 (by decide)]; exact ht i hi⟩
  | some c => exact ⟨c, hpush hl a, sn, t, L, CRel_fr hA.1 (fun k h1 _ _ => hB.2 k h1), hB.1, by rw [hB.2 158 (by decide), hA.2 158 (by decide)]; exact hL, fun i hi => by rw [hB.2 163 (by decide), hA.2 163 (by decide)]; exact ht i hi⟩
theorem LI_rd {q : Option (Nat → Int32)} (hL : σ 158 3 = nI L) (ht : ∀ i, i < L → σ 163 i = t i) (hA : CRd σ τ a hl sn q) (hB : MAct τ ρ a hl sn t L q) : LInv ρ := by
  obtain ⟨⟨a1, a2, a3⟩, a4⟩ := hA
  cases q with
  | none => exact ⟨a, hl, sn, t, L, CRel_fr a4 (fun k h1 _ _ => hB.2 k h1), hB.1, by rw [hB.2 158 (by decide), a1]; exact hL, fun i hi => by rw [hB.2 163 (by decide), a2]; exact ht i hi⟩
  | some c => exact ⟨c, hpush hl a, sn, t, L, CRel_fr a4 (fun k h1 _ _ => hB.2 k h1), hB.1, by rw [hB.2 158 (by decide), a1]; exact hL, fun i hi => by rw [hB.2 163 (by decide), a2]; exact ht i hi⟩
theorem LI_8 {sn2 : Option (Nat → Int32)} {hl2 : List (Nat → Int32)} (hL : σ 158 3 = nI L) (ht : ∀ i, i < L → σ 163 i = t i) (hC : CRel τ c hl2 sn2) (hf : ∀ k, 158 ≤ k → τ k = σ k) (hM : MRel ρ c hl2 sn2 t L) (hg : ∀ k, 8 ≤ k → ρ k = τ k) : LInv ρ :=
  ⟨c, hl2, sn2, t, L, CRel_fr hC (fun k h1 _ _ => hg k h1), hM, by rw [hg 158 (by decide), hf 158 (by decide)]; exact hL, fun i hi => by rw [hg 163 (by decide), hf 163 (by decide)]; exact ht i hi⟩
theorem LI_q (hC : CRel σ a hl sn) (hL : σ 158 3 = nI L) (ht : ∀ i, i < L → σ 163 i = t i) (hq : CQ σ τ) (hM : MRel ρ a hl sn t L) (hg : ∀ k, 8 ≤ k → ρ k = τ k) : LInv ρ :=
  LI_8 hL ht (CRel_fr hC (fun k _ _ h3 => hq k h3)) (fun k hk => hq k (by omega)) hM hg
theorem CQ_M (h : CQ σ τ) (hM : MRel σ a hl sn t L) : MRel τ a hl sn t L := MRel_c hM (fun k hk => h k (by omega))
end LI
theorem lw_setRoom {d : Nat} {w : XO} {E : XEnv} {b N i : Nat} {xs : Nat → Int32} {σ : XSt} (hG : xGl E) (cx : CX (d + 9) w E mL) (lx : LX w b N xs) (hi : i + 3 ≤ N) (hN : N ≤ 1536) (hI : LInv σ) (hn : ∀ τ, LInv τ → XG w E 586 [some (.ref b), some (.ref (xad E 8)), some (.ref (xad E 0)), some (.int (nI i))] [] τ) : XG w E 128 [some (.ref b), some (.ref (xad E 8)), some (.ref (xad E 0)), some (.int (nI i))] [] σ := by
  obtain ⟨g0, g1, g2, g3, g4, g5, g6, g7, g8, g72, g73, g158, g159, g160, g161, g162, g163, L9, L30, L51, L74, L95, L116, L137⟩ := id hG
  obtain ⟨a, hl, sn, t, L, hC, hM, hL, ht⟩ := hI
  have hI := hC.2.1
  have hL60 := hM.2.2.2.2.1
  refine xr_aload_1 cx dL_law_128 ?_
  refine xr_aload_0 cx dL_law_129 ?_
  refine xr_iload_3 cx dL_law_130 ?_
  refine xr_iconst (v := 1) cx dL_law_131 (by decide) ?_
  refine xr_iadd cx dL_law_132 ?_
  refine xr_sld (j := i + 1) lx cx dL_law_133 (nI_add i 1) ⟨by omega, hN⟩ ?_
  refine xr_V1i (ν := mX8_setRoom) cx dL_law_134 rfl ml_L_13 vf_X8_setRoom g8 (Nat.le_of_ble_eq_true rfl) (m_X8_setRoom hG hC (fun τ hA => ?_))
  refine xr_aload_2 cx dL_law_137 ?_
  refine xr_aload_0 cx dL_law_138 ?_
  refine xr_iload_3 cx dL_law_139 ?_
  refine xr_iconst (v := 1) cx dL_law_140 (by decide) ?_
  refine xr_iadd cx dL_law_141 ?_
  refine xr_sld (j := i + 1) lx cx dL_law_142 (nI_add i 1) ⟨by omega, hN⟩ ?_
  refine xr_V1i (ν := mX9_setRoom) cx dL_law_143 rfl ml_L_17 vf_X9_setRoom g0 (Nat.le_of_ble_eq_true rfl) (m_X9_setRoom hG (LI_M hA hM) hI (fun ρ hB => ?_))
  refine xr_icmp_eq (tgt := 586) cx dL_law_146 (by decide) (fun cq146 => ?_) (fun cq146 => ?_)
  · exact hn ρ (LI_act hC hL ht hA hB)
  · exact absurd rfl cq146
theorem lw_plan {d : Nat} {w : XO} {E : XEnv} {b N i : Nat} {xs : Nat → Int32} {σ : XSt} (hG : xGl E) (cx : CX (d + 9) w E mL) (lx : LX w b N xs) (hi : i + 3 ≤ N) (hN : N ≤ 1536) (hI : LInv σ) (hn : ∀ τ, LInv τ → XG w E 586 [some (.ref b), some (.ref (xad E 8)), some (.ref (xad E 0)), some (.int (nI i))] [] τ) : XG w E 151 [some (.ref b), some (.ref (xad E 8)), some (.ref (xad E 0)), some (.int (nI i))] [] σ := by
  obtain ⟨g0, g1, g2, g3, g4, g5, g6, g7, g8, g72, g73, g158, g159, g160, g161, g162, g163, L9, L30, L51, L74, L95, L116, L137⟩ := id hG
  obtain ⟨a, hl, sn, t, L, hC, hM, hL, ht⟩ := hI
  have hI := hC.2.1
  have hL60 := hM.2.2.2.2.1
  refine xr_aload_1 cx dL_law_151 ?_
  refine xr_aload_0 cx dL_law_152 ?_
  refine xr_iload_3 cx dL_law_153 ?_
  refine xr_iconst (v := 1) cx dL_law_154 (by decide) ?_
  refine xr_iadd cx dL_law_155 ?_
  refine xr_sld (j := i + 1) lx cx dL_law_156 (nI_add i 1) ⟨by omega, hN⟩ ?_
  refine xr_aload_0 cx dL_law_157 ?_
  refine xr_iload_3 cx dL_law_158 ?_
  refine xr_iconst (v := 2) cx dL_law_159 (by decide) ?_
  refine xr_iadd cx dL_law_160 ?_
  refine xr_sld (j := i + 2) lx cx dL_law_161 (nI_add i 2) ⟨by omega, hN⟩ ?_
  refine xr_V2i (ν := mX8_plan) cx dL_law_162 rfl ml_L_18 vf_X8_plan g8 (Nat.le_of_ble_eq_true rfl) (m_X8_plan hG hC (fun τ hA => ?_))
  refine xr_aload_2 cx dL_law_165 ?_
  refine xr_aload_0 cx dL_law_166 ?_
  refine xr_iload_3 cx dL_law_167 ?_
  refine xr_iconst (v := 1) cx dL_law_168 (by decide) ?_
  refine xr_iadd cx dL_law_169 ?_
  refine xr_sld (j := i + 1) lx cx dL_law_170 (nI_add i 1) ⟨by omega, hN⟩ ?_
  refine xr_aload_0 cx dL_law_171 ?_
  refine xr_iload_3 cx dL_law_172 ?_
  refine xr_iconst (v := 2) cx dL_law_173 (by decide) ?_
  refine xr_iadd cx dL_law_174 ?_
  refine xr_sld (j := i + 2) lx cx dL_law_175 (nI_add i 2) ⟨by omega, hN⟩ ?_
  refine xr_V2i (ν := mX9_plan) cx dL_law_176 rfl ml_L_22 vf_X9_plan g0 (Nat.le_of_ble_eq_true rfl) (m_X9_plan hG (LI_M hA hM) hI (fun ρ hB => ?_))
  refine xr_icmp_eq (tgt := 586) cx dL_law_179 (by decide) (fun cq179 => ?_) (fun cq179 => ?_)
  · exact hn ρ (LI_act hC hL ht hA hB)
  · exact absurd rfl cq179
theorem lw_readPlan {d : Nat} {w : XO} {E : XEnv} {b N i : Nat} {xs : Nat → Int32} {σ : XSt} (hG : xGl E) (cx : CX (d + 9) w E mL) (lx : LX w b N xs) (hi : i + 3 ≤ N) (hN : N ≤ 1536) (hI : LInv σ) (hn : ∀ τ, LInv τ → XG w E 586 [some (.ref b), some (.ref (xad E 8)), some (.ref (xad E 0)), some (.int (nI i))] [] τ) : XG w E 184 [some (.ref b), some (.ref (xad E 8)), some (.ref (xad E 0)), some (.int (nI i))] [] σ := by
  obtain ⟨g0, g1, g2, g3, g4, g5, g6, g7, g8, g72, g73, g158, g159, g160, g161, g162, g163, L9, L30, L51, L74, L95, L116, L137⟩ := id hG
  obtain ⟨a, hl, sn, t, L, hC, hM, hL, ht⟩ := hI
  have hI := hC.2.1
  have hL60 := hM.2.2.2.2.1
  refine xr_aload_1 cx dL_law_184 ?_
  refine xr_V0i (ν := mX8_readPlan) cx dL_law_185 rfl ml_L_23 vf_X8_readPlan g8 (Nat.le_of_ble_eq_true rfl) (m_X8_readPlan hG hC hL60 hL (fun τ hA => ?_))
  have hr : pRun (mSt a) (σ 163) L 0 (0, 0, σ 158 7, σ 160, σ 162) = pRun (mSt a) t L 0 (0, 0, σ 158 7, σ 160, σ 162) := pRun_cong L 0 _ (fun k _ h => ht k (by omega))
  rw [hr] at hA ⊢
  refine xr_aload_2 cx dL_law_188 ?_
  refine xr_V0i (ν := mX9_readPlan) cx dL_law_189 rfl ml_L_27 vf_X9_readPlan g0 (Nat.le_of_ble_eq_true rfl) (m_X9_readPlan (ln := σ 160) (nd := σ 162) (num := σ 158 7) hG (MRel_c hM hA.1.2.2) hI (fun ρ hB => ?_))
  refine xr_icmp_eq (tgt := 586) cx dL_law_192 (by decide) (fun cq192 => ?_) (fun cq192 => ?_)
  · exact hn ρ (LI_rd hL ht hA hB)
  · exact absurd rfl cq192
theorem lw_write {d : Nat} {w : XO} {E : XEnv} {b N i : Nat} {xs : Nat → Int32} {σ : XSt} (hG : xGl E) (cx : CX (d + 9) w E mL) (lx : LX w b N xs) (hi : i + 3 ≤ N) (hN : N ≤ 1536) (hI : LInv σ) (hn : ∀ τ, LInv τ → XG w E 586 [some (.ref b), some (.ref (xad E 8)), some (.ref (xad E 0)), some (.int (nI i))] [] τ) : XG w E 197 [some (.ref b), some (.ref (xad E 8)), some (.ref (xad E 0)), some (.int (nI i))] [] σ := by
  obtain ⟨g0, g1, g2, g3, g4, g5, g6, g7, g8, g72, g73, g158, g159, g160, g161, g162, g163, L9, L30, L51, L74, L95, L116, L137⟩ := id hG
  obtain ⟨a, hl, sn, t, L, hC, hM, hL, ht⟩ := hI
  have hI := hC.2.1
  have hL60 := hM.2.2.2.2.1
  refine xr_aload_1 cx dL_law_197 ?_
  refine xr_V0i (ν := mX8_write) cx dL_law_198 rfl ml_L_28 vf_X8_write g8 (Nat.le_of_ble_eq_true rfl) (m_X8_write hG hC (fun τ hA => ?_))
  refine xr_aload_2 cx dL_law_201 ?_
  refine xr_V0i (ν := mX9_write) cx dL_law_202 rfl ml_L_31 vf_X9_write g0 (Nat.le_of_ble_eq_true rfl) (m_X9_write hG (LI_M hA hM) hI (fun ρ hB => ?_))
  refine xr_icmp_eq (tgt := 586) cx dL_law_205 (by decide) (fun cq205 => ?_) (fun cq205 => ?_)
  · exact hn ρ (LI_act hC hL ht hA hB)
  · exact absurd rfl cq205
theorem lw_pull {d : Nat} {w : XO} {E : XEnv} {b N i : Nat} {xs : Nat → Int32} {σ : XSt} (hG : xGl E) (cx : CX (d + 9) w E mL) (lx : LX w b N xs) (hi : i + 3 ≤ N) (hN : N ≤ 1536) (hI : LInv σ) (hn : ∀ τ, LInv τ → XG w E 586 [some (.ref b), some (.ref (xad E 8)), some (.ref (xad E 0)), some (.int (nI i))] [] τ) : XG w E 210 [some (.ref b), some (.ref (xad E 8)), some (.ref (xad E 0)), some (.int (nI i))] [] σ := by
  obtain ⟨g0, g1, g2, g3, g4, g5, g6, g7, g8, g72, g73, g158, g159, g160, g161, g162, g163, L9, L30, L51, L74, L95, L116, L137⟩ := id hG
  obtain ⟨a, hl, sn, t, L, hC, hM, hL, ht⟩ := hI
  have hI := hC.2.1
  have hL60 := hM.2.2.2.2.1
  refine xr_aload_1 cx dL_law_210 ?_
  refine xr_aload_0 cx dL_law_211 ?_
  refine xr_iload_3 cx dL_law_212 ?_
  refine xr_iconst (v := 1) cx dL_law_213 (by decide) ?_
  refine xr_iadd cx dL_law_214 ?_
  refine xr_sld (j := i + 1) lx cx dL_law_215 (nI_add i 1) ⟨by omega, hN⟩ ?_
  refine xr_V1i (ν := mX8_pull) cx dL_law_216 rfl ml_L_32 vf_X8_pull g8 (Nat.le_of_ble_eq_true rfl) (m_X8_pull hG hC (fun τ hA => ?_))
  refine xr_aload_2 cx dL_law_219 ?_
  refine xr_aload_0 cx dL_law_220 ?_
  refine xr_iload_3 cx dL_law_221 ?_
  refine xr_iconst (v := 1) cx dL_law_222 (by decide) ?_
  refine xr_iadd cx dL_law_223 ?_
  refine xr_sld (j := i + 1) lx cx dL_law_224 (nI_add i 1) ⟨by omega, hN⟩ ?_
  refine xr_V1i (ν := mX9_pull) cx dL_law_225 rfl ml_L_35 vf_X9_pull g0 (Nat.le_of_ble_eq_true rfl) (m_X9_pull hG (LI_M hA hM) hI (fun ρ hB => ?_))
  refine xr_icmp_eq (tgt := 586) cx dL_law_228 (by decide) (fun cq228 => ?_) (fun cq228 => ?_)
  · exact hn ρ (LI_act hC hL ht hA hB)
  · exact absurd rfl cq228
theorem lw_pin {d : Nat} {w : XO} {E : XEnv} {b N i : Nat} {xs : Nat → Int32} {σ : XSt} (hG : xGl E) (cx : CX (d + 9) w E mL) (lx : LX w b N xs) (hi : i + 3 ≤ N) (hN : N ≤ 1536) (hI : LInv σ) (hn : ∀ τ, LInv τ → XG w E 586 [some (.ref b), some (.ref (xad E 8)), some (.ref (xad E 0)), some (.int (nI i))] [] τ) : XG w E 233 [some (.ref b), some (.ref (xad E 8)), some (.ref (xad E 0)), some (.int (nI i))] [] σ := by
  obtain ⟨g0, g1, g2, g3, g4, g5, g6, g7, g8, g72, g73, g158, g159, g160, g161, g162, g163, L9, L30, L51, L74, L95, L116, L137⟩ := id hG
  obtain ⟨a, hl, sn, t, L, hC, hM, hL, ht⟩ := hI
  have hI := hC.2.1
  have hL60 := hM.2.2.2.2.1
  refine xr_aload_1 cx dL_law_233 ?_
  refine xr_aload_0 cx dL_law_234 ?_
  refine xr_iload_3 cx dL_law_235 ?_
  refine xr_iconst (v := 1) cx dL_law_236 (by decide) ?_
  refine xr_iadd cx dL_law_237 ?_
  refine xr_sld (j := i + 1) lx cx dL_law_238 (nI_add i 1) ⟨by omega, hN⟩ ?_
  refine xr_aload_0 cx dL_law_239 ?_
  refine xr_iload_3 cx dL_law_240 ?_
  refine xr_iconst (v := 2) cx dL_law_241 (by decide) ?_
  refine xr_iadd cx dL_law_242 ?_
  refine xr_sld (j := i + 2) lx cx dL_law_243 (nI_add i 2) ⟨by omega, hN⟩ ?_
  refine xr_if_eq (tgt := 251) cx dL_law_244 (by decide) (fun cq244 => ?_) (fun cq244 => ?_)
  · refine xr_iconst (v := 0) cx dL_law_251 (by decide) ?_
    refine xr_V2i (ν := mX8_pin) cx dL_law_252 rfl ml_L_36 vf_X8_pin g8 (Nat.le_of_ble_eq_true rfl) (m_X8_pin hG hC (fun τ hA => ?_))
    refine xr_aload_2 cx dL_law_255 ?_
    refine xr_aload_0 cx dL_law_256 ?_
    refine xr_iload_3 cx dL_law_257 ?_
    refine xr_iconst (v := 1) cx dL_law_258 (by decide) ?_
    refine xr_iadd cx dL_law_259 ?_
    refine xr_sld (j := i + 1) lx cx dL_law_260 (nI_add i 1) ⟨by omega, hN⟩ ?_
    refine xr_aload_0 cx dL_law_261 ?_
    refine xr_iload_3 cx dL_law_262 ?_
    refine xr_iconst (v := 2) cx dL_law_263 (by decide) ?_
    refine xr_iadd cx dL_law_264 ?_
    refine xr_sld (j := i + 2) lx cx dL_law_265 (nI_add i 2) ⟨by omega, hN⟩ ?_
    refine xr_if_eq (tgt := 273) cx dL_law_266 (by decide) (fun cq266 => ?_) (fun cq266 => ?_)
    · refine xr_iconst (v := 0) cx dL_law_273 (by decide) ?_
      refine xr_V2i (ν := mX9_pin) cx dL_law_274 rfl ml_L_40 vf_X9_pin g0 (Nat.le_of_ble_eq_true rfl) (m_X9_pin hG (LI_M hA hM) hI (fun ρ hB => ?_))
      refine xr_icmp_eq (tgt := 586) cx dL_law_277 (by decide) (fun cq277 => ?_) (fun cq277 => ?_)
      · exact hn ρ (LI_act hC hL ht hA hB)
      · exact absurd rfl cq277
    · exact absurd cq244 cq266
  · refine xr_iconst (v := 1) cx dL_law_247 (by decide) ?_
    refine xr_goto (tgt := 252) cx dL_law_248 (by decide) ?_
    refine xr_V2i (ν := mX8_pin) cx dL_law_252 rfl ml_L_36 vf_X8_pin g8 (Nat.le_of_ble_eq_true rfl) (m_X8_pin hG hC (fun τ hA => ?_))
    refine xr_aload_2 cx dL_law_255 ?_
    refine xr_aload_0 cx dL_law_256 ?_
    refine xr_iload_3 cx dL_law_257 ?_
    refine xr_iconst (v := 1) cx dL_law_258 (by decide) ?_
    refine xr_iadd cx dL_law_259 ?_
    refine xr_sld (j := i + 1) lx cx dL_law_260 (nI_add i 1) ⟨by omega, hN⟩ ?_
    refine xr_aload_0 cx dL_law_261 ?_
    refine xr_iload_3 cx dL_law_262 ?_
    refine xr_iconst (v := 2) cx dL_law_263 (by decide) ?_
    refine xr_iadd cx dL_law_264 ?_
    refine xr_sld (j := i + 2) lx cx dL_law_265 (nI_add i 2) ⟨by omega, hN⟩ ?_
    refine xr_if_eq (tgt := 273) cx dL_law_266 (by decide) (fun cq266 => ?_) (fun cq266 => ?_)
    · exact absurd cq266 cq244
    · refine xr_iconst (v := 1) cx dL_law_269 (by decide) ?_
      refine xr_goto (tgt := 274) cx dL_law_270 (by decide) ?_
      refine xr_V2i (ν := mX9_pin) cx dL_law_274 rfl ml_L_40 vf_X9_pin g0 (Nat.le_of_ble_eq_true rfl) (m_X9_pin hG (LI_M hA hM) hI (fun ρ hB => ?_))
      refine xr_icmp_eq (tgt := 586) cx dL_law_277 (by decide) (fun cq277 => ?_) (fun cq277 => ?_)
      · exact hn ρ (LI_act hC hL ht hA hB)
      · exact absurd rfl cq277
theorem lw_wipe {d : Nat} {w : XO} {E : XEnv} {b N i : Nat} {xs : Nat → Int32} {σ : XSt} (hG : xGl E) (cx : CX (d + 9) w E mL) (lx : LX w b N xs) (hi : i + 3 ≤ N) (hN : N ≤ 1536) (hI : LInv σ) (hn : ∀ τ, LInv τ → XG w E 586 [some (.ref b), some (.ref (xad E 8)), some (.ref (xad E 0)), some (.int (nI i))] [] τ) : XG w E 282 [some (.ref b), some (.ref (xad E 8)), some (.ref (xad E 0)), some (.int (nI i))] [] σ := by
  obtain ⟨g0, g1, g2, g3, g4, g5, g6, g7, g8, g72, g73, g158, g159, g160, g161, g162, g163, L9, L30, L51, L74, L95, L116, L137⟩ := id hG
  obtain ⟨a, hl, sn, t, L, hC, hM, hL, ht⟩ := hI
  have hI := hC.2.1
  have hL60 := hM.2.2.2.2.1
  refine xr_aload_1 cx dL_law_282 ?_
  refine xr_aload_0 cx dL_law_283 ?_
  refine xr_iload_3 cx dL_law_284 ?_
  refine xr_iconst (v := 1) cx dL_law_285 (by decide) ?_
  refine xr_iadd cx dL_law_286 ?_
  refine xr_sld (j := i + 1) lx cx dL_law_287 (nI_add i 1) ⟨by omega, hN⟩ ?_
  refine xr_V1i (ν := mX8_wipe) cx dL_law_288 rfl ml_L_41 vf_X8_wipe g8 (Nat.le_of_ble_eq_true rfl) (m_X8_wipe hG hC (fun τ hA => ?_))
  refine xr_aload_2 cx dL_law_291 ?_
  refine xr_aload_0 cx dL_law_292 ?_
  refine xr_iload_3 cx dL_law_293 ?_
  refine xr_iconst (v := 1) cx dL_law_294 (by decide) ?_
  refine xr_iadd cx dL_law_295 ?_
  refine xr_sld (j := i + 1) lx cx dL_law_296 (nI_add i 1) ⟨by omega, hN⟩ ?_
  refine xr_V1i (ν := mX9_wipe) cx dL_law_297 rfl ml_L_44 vf_X9_wipe g0 (Nat.le_of_ble_eq_true rfl) (m_X9_wipe hG (LI_M hA hM) hI (fun ρ hB => ?_))
  refine xr_icmp_eq (tgt := 586) cx dL_law_300 (by decide) (fun cq300 => ?_) (fun cq300 => ?_)
  · exact hn ρ (LI_act hC hL ht hA hB)
  · exact absurd rfl cq300
theorem lw_photo {d : Nat} {w : XO} {E : XEnv} {b N i : Nat} {xs : Nat → Int32} {σ : XSt} (hG : xGl E) (cx : CX (d + 9) w E mL) (lx : LX w b N xs) (hi : i + 3 ≤ N) (hN : N ≤ 1536) (hI : LInv σ) (hn : ∀ τ, LInv τ → XG w E 586 [some (.ref b), some (.ref (xad E 8)), some (.ref (xad E 0)), some (.int (nI i))] [] τ) : XG w E 305 [some (.ref b), some (.ref (xad E 8)), some (.ref (xad E 0)), some (.int (nI i))] [] σ := by
  obtain ⟨g0, g1, g2, g3, g4, g5, g6, g7, g8, g72, g73, g158, g159, g160, g161, g162, g163, L9, L30, L51, L74, L95, L116, L137⟩ := id hG
  obtain ⟨a, hl, sn, t, L, hC, hM, hL, ht⟩ := hI
  have hI := hC.2.1
  have hL60 := hM.2.2.2.2.1
  refine xr_aload_1 cx dL_law_305 ?_
  refine xr_aload_0 cx dL_law_306 ?_
  refine xr_iload_3 cx dL_law_307 ?_
  refine xr_iconst (v := 1) cx dL_law_308 (by decide) ?_
  refine xr_iadd cx dL_law_309 ?_
  refine xr_sld (j := i + 1) lx cx dL_law_310 (nI_add i 1) ⟨by omega, hN⟩ ?_
  refine xr_V1i (ν := mX8_photo) cx dL_law_311 rfl ml_L_45 vf_X8_photo g8 (Nat.le_of_ble_eq_true rfl) (m_X8_photo hG hC (fun τ hA => ?_))
  refine xr_aload_2 cx dL_law_314 ?_
  refine xr_aload_0 cx dL_law_315 ?_
  refine xr_iload_3 cx dL_law_316 ?_
  refine xr_iconst (v := 1) cx dL_law_317 (by decide) ?_
  refine xr_iadd cx dL_law_318 ?_
  refine xr_sld (j := i + 1) lx cx dL_law_319 (nI_add i 1) ⟨by omega, hN⟩ ?_
  refine xr_V1i (ν := mX9_photo) cx dL_law_320 rfl ml_L_48 vf_X9_photo g0 (Nat.le_of_ble_eq_true rfl) (m_X9_photo hG (LI_M hA hM) hI (fun ρ hB => ?_))
  refine xr_icmp_eq (tgt := 586) cx dL_law_323 (by decide) (fun cq323 => ?_) (fun cq323 => ?_)
  · exact hn ρ (LI_act hC hL ht hA hB)
  · exact absurd rfl cq323
theorem lw_ask {d : Nat} {w : XO} {E : XEnv} {b N i : Nat} {xs : Nat → Int32} {σ : XSt} (hG : xGl E) (cx : CX (d + 9) w E mL) (lx : LX w b N xs) (hi : i + 3 ≤ N) (hN : N ≤ 1536) (hI : LInv σ) (hn : ∀ τ, LInv τ → XG w E 586 [some (.ref b), some (.ref (xad E 8)), some (.ref (xad E 0)), some (.int (nI i))] [] τ) : XG w E 328 [some (.ref b), some (.ref (xad E 8)), some (.ref (xad E 0)), some (.int (nI i))] [] σ := by
  obtain ⟨g0, g1, g2, g3, g4, g5, g6, g7, g8, g72, g73, g158, g159, g160, g161, g162, g163, L9, L30, L51, L74, L95, L116, L137⟩ := id hG
  obtain ⟨a, hl, sn, t, L, hC, hM, hL, ht⟩ := hI
  have hI := hC.2.1
  have hL60 := hM.2.2.2.2.1
  refine xr_aload_1 cx dL_law_328 ?_
  refine xr_aload_0 cx dL_law_329 ?_
  refine xr_iload_3 cx dL_law_330 ?_
  refine xr_iconst (v := 1) cx dL_law_331 (by decide) ?_
  refine xr_iadd cx dL_law_332 ?_
  refine xr_sld (j := i + 1) lx cx dL_law_333 (nI_add i 1) ⟨by omega, hN⟩ ?_
  refine xr_V1i (ν := mX8_ask) cx dL_law_334 rfl ml_L_49 vf_X8_ask g8 (Nat.le_of_ble_eq_true rfl) (m_X8_ask hG hC (fun τ hA => ?_))
  refine xr_aload_2 cx dL_law_337 ?_
  refine xr_aload_0 cx dL_law_338 ?_
  refine xr_iload_3 cx dL_law_339 ?_
  refine xr_iconst (v := 1) cx dL_law_340 (by decide) ?_
  refine xr_iadd cx dL_law_341 ?_
  refine xr_sld (j := i + 1) lx cx dL_law_342 (nI_add i 1) ⟨by omega, hN⟩ ?_
  refine xr_V1i (ν := mX9_ask) cx dL_law_343 rfl ml_L_52 vf_X9_ask g0 (Nat.le_of_ble_eq_true rfl) (m_X9_ask hG (LI_M hA hM) hI (fun ρ hB => ?_))
  refine xr_icmp_eq (tgt := 586) cx dL_law_346 (by decide) (fun cq346 => ?_) (fun cq346 => ?_)
  · exact hn ρ (LI_act hC hL ht hA hB)
  · exact absurd rfl cq346
theorem lw_type {d : Nat} {w : XO} {E : XEnv} {b N i : Nat} {xs : Nat → Int32} {σ : XSt} (hG : xGl E) (cx : CX (d + 9) w E mL) (lx : LX w b N xs) (hi : i + 3 ≤ N) (hN : N ≤ 1536) (hI : LInv σ) (hn : ∀ τ, LInv τ → XG w E 586 [some (.ref b), some (.ref (xad E 8)), some (.ref (xad E 0)), some (.int (nI i))] [] τ) : XG w E 351 [some (.ref b), some (.ref (xad E 8)), some (.ref (xad E 0)), some (.int (nI i))] [] σ := by
  obtain ⟨g0, g1, g2, g3, g4, g5, g6, g7, g8, g72, g73, g158, g159, g160, g161, g162, g163, L9, L30, L51, L74, L95, L116, L137⟩ := id hG
  obtain ⟨a, hl, sn, t, L, hC, hM, hL, ht⟩ := hI
  have hI := hC.2.1
  have hL60 := hM.2.2.2.2.1
  by_cases h60 : L = 60
  · refine xr_aload_1 cx dL_law_351 ?_
    refine xr_aload_0 cx dL_law_352 ?_
    refine xr_iload_3 cx dL_law_353 ?_
    refine xr_iconst (v := 1) cx dL_law_354 (by decide) ?_
    refine xr_iadd cx dL_law_355 ?_
    refine xr_sld (j := i + 1) lx cx dL_law_356 (nI_add i 1) ⟨by omega, hN⟩ ?_
    refine xr_i2c cx dL_law_357 ?_
    refine xr_V1i (ν := mX8_type) cx dL_law_358 rfl ml_L_53 vf_X8_type g8 (Nat.le_of_ble_eq_true rfl) (m_X8_type hG hL hL60 ⟨fun _ => ?_, fun z => absurd z (by omega)⟩)
    refine xr_aload_2 cx dL_law_361 ?_
    refine xr_aload_0 cx dL_law_362 ?_
    refine xr_iload_3 cx dL_law_363 ?_
    refine xr_iconst (v := 1) cx dL_law_364 (by decide) ?_
    refine xr_iadd cx dL_law_365 ?_
    refine xr_sld (j := i + 1) lx cx dL_law_366 (nI_add i 1) ⟨by omega, hN⟩ ?_
    refine xr_i2c cx dL_law_367 ?_
    refine xr_V1i (ν := mX9_type) cx dL_law_368 rfl ml_L_57 vf_X9_type g0 (Nat.le_of_ble_eq_true rfl) (m_X9_type hG hM ⟨fun _ => ?_, fun z => absurd z (by omega)⟩)
    refine xr_icmp_eq (tgt := 586) cx dL_law_371 (by decide) (fun cq371 => ?_) (fun cq371 => ?_)
    · exact hn σ ⟨a, hl, sn, t, L, hC, hM, hL, ht⟩
    · exact absurd rfl cq371
  · refine xr_aload_1 cx dL_law_351 ?_
    refine xr_aload_0 cx dL_law_352 ?_
    refine xr_iload_3 cx dL_law_353 ?_
    refine xr_iconst (v := 1) cx dL_law_354 (by decide) ?_
    refine xr_iadd cx dL_law_355 ?_
    refine xr_sld (j := i + 1) lx cx dL_law_356 (nI_add i 1) ⟨by omega, hN⟩ ?_
    refine xr_i2c cx dL_law_357 ?_
    refine xr_V1i (ν := mX8_type) cx dL_law_358 rfl ml_L_53 vf_X8_type g8 (Nat.le_of_ble_eq_true rfl) (m_X8_type hG hL hL60 ⟨fun z => absurd z (by omega), fun _ => ?_⟩)
    refine xr_aload_2 cx dL_law_361 ?_
    refine xr_aload_0 cx dL_law_362 ?_
    refine xr_iload_3 cx dL_law_363 ?_
    refine xr_iconst (v := 1) cx dL_law_364 (by decide) ?_
    refine xr_iadd cx dL_law_365 ?_
    refine xr_sld (j := i + 1) lx cx dL_law_366 (nI_add i 1) ⟨by omega, hN⟩ ?_
    refine xr_i2c cx dL_law_367 ?_
    refine xr_V1i (ν := mX9_type) cx dL_law_368 rfl ml_L_57 vf_X9_type g0 (Nat.le_of_ble_eq_true rfl) (m_X9_type hG (MRel_c hM (fun k hk => by rw [su_ne _ _ (by omega), su_ne _ _ (by omega)])) ⟨fun z => absurd z (by omega), fun _ ρ r1 r2 => ?_⟩)
    refine xr_icmp_eq (tgt := 586) cx dL_law_371 (by decide) (fun cq371 => ?_) (fun cq371 => ?_)
    · refine hn ρ ⟨a, hl, sn, upd t L ((xs (i + 1)).toUInt32 % 65536).toInt32, L + 1, CRel_fr hC (fun k h1 h2 _ => by rw [r2 k h1, su_ne _ _ (by omega), su_ne _ _ (by omega)]), r1, by rw [r2 158 (by decide), su_same, upd_same], fun j hj => ?_⟩
      rw [r2 163 (by decide), su_ne _ _ (by decide), su_same, pk_vc]
      by_cases e : j = L
      · subst e; rw [upd_same, upd_same]
      · rw [upd_ne _ _ e, upd_ne _ _ e]; exact ht j (by omega)
    · exact absurd rfl cq371
theorem lw_clearText {d : Nat} {w : XO} {E : XEnv} {b N i : Nat} {xs : Nat → Int32} {σ : XSt} (hG : xGl E) (cx : CX (d + 9) w E mL) (lx : LX w b N xs) (hi : i + 3 ≤ N) (hN : N ≤ 1536) (hI : LInv σ) (hn : ∀ τ, LInv τ → XG w E 586 [some (.ref b), some (.ref (xad E 8)), some (.ref (xad E 0)), some (.int (nI i))] [] τ) : XG w E 376 [some (.ref b), some (.ref (xad E 8)), some (.ref (xad E 0)), some (.int (nI i))] [] σ := by
  obtain ⟨g0, g1, g2, g3, g4, g5, g6, g7, g8, g72, g73, g158, g159, g160, g161, g162, g163, L9, L30, L51, L74, L95, L116, L137⟩ := id hG
  obtain ⟨a, hl, sn, t, L, hC, hM, hL, ht⟩ := hI
  have hI := hC.2.1
  have hL60 := hM.2.2.2.2.1
  refine xr_aload_1 cx dL_law_376 ?_
  refine xr_V0i (ν := mX8_clearText) cx dL_law_377 rfl ml_L_58 vf_X8_clearText g8 (Nat.le_of_ble_eq_true rfl) (m_X8_clearText hG hL hL60 ?_)
  refine xr_aload_2 cx dL_law_380 ?_
  refine xr_V0i (ν := mX9_clearText) cx dL_law_381 rfl ml_L_61 vf_X9_clearText g0 (Nat.le_of_ble_eq_true rfl) (m_X9_clearText hG (MRel_c hM (fun k hk => su_ne _ _ (by omega))) (fun ρ r1 r2 => ?_))
  refine xr_icmp_eq (tgt := 586) cx dL_law_384 (by decide) (fun cq384 => ?_) (fun cq384 => ?_)
  · exact hn ρ ⟨a, hl, sn, t, 0, CRel_fr hC (fun k h1 h2 _ => by rw [r2 k h1, su_ne _ _ (by omega)]), r1, by rw [r2 158 (by decide), su_same, upd_same]; rfl, fun j hj => absurd hj (Nat.not_lt_zero j)⟩
  · exact absurd rfl cq384
theorem lw_undo {d : Nat} {w : XO} {E : XEnv} {b N i : Nat} {xs : Nat → Int32} {σ : XSt} (hG : xGl E) (cx : CX (d + 9) w E mL) (lx : LX w b N xs) (hi : i + 3 ≤ N) (hN : N ≤ 1536) (hI : LInv σ) (hn : ∀ τ, LInv τ → XG w E 586 [some (.ref b), some (.ref (xad E 8)), some (.ref (xad E 0)), some (.int (nI i))] [] τ) : XG w E 389 [some (.ref b), some (.ref (xad E 8)), some (.ref (xad E 0)), some (.int (nI i))] [] σ := by
  obtain ⟨g0, g1, g2, g3, g4, g5, g6, g7, g8, g72, g73, g158, g159, g160, g161, g162, g163, L9, L30, L51, L74, L95, L116, L137⟩ := id hG
  obtain ⟨a, hl, sn, t, L, hC, hM, hL, ht⟩ := hI
  have hI := hC.2.1
  have hL60 := hM.2.2.2.2.1
  rcases List.eq_nil_or_concat hl with rfl | ⟨l2, c, hlc⟩
  · refine xr_aload_1 cx dL_law_389 ?_
    refine xr_V0i (ν := mX8_undo) cx dL_law_390 rfl ml_L_62 vf_X8_undo g8 (Nat.le_of_ble_eq_true rfl) (m_X8_undo_n (hl := []) hG hC ?_)
    refine xr_aload_2 cx dL_law_393 ?_
    refine xr_V0i (ν := mX9_undo) cx dL_law_394 rfl ml_L_65 vf_X9_undo g0 (Nat.le_of_ble_eq_true rfl) (m_X9_undo_n hG hM ?_)
    refine xr_icmp_eq (tgt := 586) cx dL_law_397 (by decide) (fun cq397 => ?_) (fun cq397 => ?_)
    · exact hn σ ⟨a, [], sn, t, L, hC, hM, hL, ht⟩
    · exact absurd rfl cq397
  · obtain rfl : hl = l2 ++ [c] := by simpa using hlc
    refine xr_aload_1 cx dL_law_389 ?_
    refine xr_V0i (ν := mX8_undo) cx dL_law_390 rfl ml_L_62 vf_X8_undo g8 (Nat.le_of_ble_eq_true rfl) (m_X8_undo_s hG hC (fun τ r1 r2 => ?_))
    refine xr_aload_2 cx dL_law_393 ?_
    refine xr_V0i (ν := mX9_undo) cx dL_law_394 rfl ml_L_65 vf_X9_undo g0 (Nat.le_of_ble_eq_true rfl) (m_X9_undo_s hG (MRel_c hM (fun k hk => r2 k (by omega))) (fun ρ r3 r4 => ?_))
    refine xr_icmp_eq (tgt := 586) cx dL_law_397 (by decide) (fun cq397 => ?_) (fun cq397 => ?_)
    · exact hn ρ (LI_8 hL ht r1 (fun k hk => r2 k (by omega)) r3 r4)
    · exact absurd rfl cq397
theorem lw_keep {d : Nat} {w : XO} {E : XEnv} {b N i : Nat} {xs : Nat → Int32} {σ : XSt} (hG : xGl E) (cx : CX (d + 9) w E mL) (lx : LX w b N xs) (hi : i + 3 ≤ N) (hN : N ≤ 1536) (hI : LInv σ) (hn : ∀ τ, LInv τ → XG w E 586 [some (.ref b), some (.ref (xad E 8)), some (.ref (xad E 0)), some (.int (nI i))] [] τ) : XG w E 402 [some (.ref b), some (.ref (xad E 8)), some (.ref (xad E 0)), some (.int (nI i))] [] σ := by
  obtain ⟨g0, g1, g2, g3, g4, g5, g6, g7, g8, g72, g73, g158, g159, g160, g161, g162, g163, L9, L30, L51, L74, L95, L116, L137⟩ := id hG
  obtain ⟨a, hl, sn, t, L, hC, hM, hL, ht⟩ := hI
  have hI := hC.2.1
  have hL60 := hM.2.2.2.2.1
  refine xr_aload_1 cx dL_law_402 ?_
  refine xr_V0i (ν := mX8_keep) cx dL_law_403 rfl ml_L_66 vf_X8_keep g8 (Nat.le_of_ble_eq_true rfl) (m_X8_keep hG hC (fun τ r1 r2 => ?_))
  refine xr_aload_2 cx dL_law_406 ?_
  refine xr_V0i (ν := mX9_keep) cx dL_law_407 rfl ml_L_69 vf_X9_keep g0 (Nat.le_of_ble_eq_true rfl) (m_X9_keep hG (MRel_c hM (fun k hk => r2 k (by omega))) (fun ρ r3 r4 => ?_))
  refine xr_icmp_eq (tgt := 586) cx dL_law_410 (by decide) (fun cq410 => ?_) (fun cq410 => ?_)
  · exact hn ρ (LI_8 hL ht r1 (fun k hk => r2 k (by omega)) r3 r4)
  · exact absurd rfl cq410
theorem lw_restore {d : Nat} {w : XO} {E : XEnv} {b N i : Nat} {xs : Nat → Int32} {σ : XSt} (hG : xGl E) (cx : CX (d + 9) w E mL) (lx : LX w b N xs) (hi : i + 3 ≤ N) (hN : N ≤ 1536) (hI : LInv σ) (hn : ∀ τ, LInv τ → XG w E 586 [some (.ref b), some (.ref (xad E 8)), some (.ref (xad E 0)), some (.int (nI i))] [] τ) : XG w E 415 [some (.ref b), some (.ref (xad E 8)), some (.ref (xad E 0)), some (.int (nI i))] [] σ := by
  obtain ⟨g0, g1, g2, g3, g4, g5, g6, g7, g8, g72, g73, g158, g159, g160, g161, g162, g163, L9, L30, L51, L74, L95, L116, L137⟩ := id hG
  obtain ⟨a, hl, sn, t, L, hC, hM, hL, ht⟩ := hI
  have hI := hC.2.1
  have hL60 := hM.2.2.2.2.1
  cases sn with
  | none =>
    refine xr_aload_1 cx dL_law_415 ?_
    refine xr_V0i (ν := mX8_restore) cx dL_law_416 rfl ml_L_70 vf_X8_restore g8 (Nat.le_of_ble_eq_true rfl) (m_X8_restore_n hG hC ?_)
    refine xr_aload_2 cx dL_law_419 ?_
    refine xr_V0i (ν := mX9_restore) cx dL_law_420 rfl ml_L_73 vf_X9_restore g0 (Nat.le_of_ble_eq_true rfl) (m_X9_restore_n hG hM ?_)
    refine xr_icmp_eq (tgt := 586) cx dL_law_423 (by decide) (fun cq423 => ?_) (fun cq423 => ?_)
    · exact hn σ ⟨a, hl, none, t, L, hC, hM, hL, ht⟩
    · exact absurd rfl cq423
  | some c =>
    refine xr_aload_1 cx dL_law_415 ?_
    refine xr_V0i (ν := mX8_restore) cx dL_law_416 rfl ml_L_70 vf_X8_restore g8 (Nat.le_of_ble_eq_true rfl) (m_X8_restore_s hG hC (fun τ hA => ?_))
    refine xr_aload_2 cx dL_law_419 ?_
    refine xr_V0i (ν := mX9_restore) cx dL_law_420 rfl ml_L_73 vf_X9_restore g0 (Nat.le_of_ble_eq_true rfl) (m_X9_restore_s hG (LI_M hA hM) (fun ρ hB => ?_))
    refine xr_icmp_eq (tgt := 586) cx dL_law_423 (by decide) (fun cq423 => ?_) (fun cq423 => ?_)
    · exact hn ρ (LI_act hC hL ht hA hB)
    · exact absurd rfl cq423
theorem lw_panel {d : Nat} {w : XO} {E : XEnv} {b N i : Nat} {xs : Nat → Int32} {σ : XSt} (hG : xGl E) (cx : CX (d + 9) w E mL) (lx : LX w b N xs) (hi : i + 3 ≤ N) (hN : N ≤ 1536) (hI : LInv σ) (hn : ∀ τ, LInv τ → XG w E 586 [some (.ref b), some (.ref (xad E 8)), some (.ref (xad E 0)), some (.int (nI i))] [] τ) : XG w E 428 [some (.ref b), some (.ref (xad E 8)), some (.ref (xad E 0)), some (.int (nI i))] [] σ := by
  obtain ⟨g0, g1, g2, g3, g4, g5, g6, g7, g8, g72, g73, g158, g159, g160, g161, g162, g163, L9, L30, L51, L74, L95, L116, L137⟩ := id hG
  obtain ⟨a, hl, sn, t, L, hC, hM, hL, ht⟩ := hI
  have hI := hC.2.1
  have hL60 := hM.2.2.2.2.1
  refine xr_aload_1 cx dL_law_428 ?_
  refine xr_aload_0 cx dL_law_429 ?_
  refine xr_iload_3 cx dL_law_430 ?_
  refine xr_iconst (v := 1) cx dL_law_431 (by decide) ?_
  refine xr_iadd cx dL_law_432 ?_
  refine xr_sld (j := i + 1) lx cx dL_law_433 (nI_add i 1) ⟨by omega, hN⟩ ?_
  refine xr_aload_0 cx dL_law_434 ?_
  refine xr_iload_3 cx dL_law_435 ?_
  refine xr_iconst (v := 2) cx dL_law_436 (by decide) ?_
  refine xr_iadd cx dL_law_437 ?_
  refine xr_sld (j := i + 2) lx cx dL_law_438 (nI_add i 2) ⟨by omega, hN⟩ ?_
  refine xr_V2i (ν := mX8_panel) cx dL_law_439 rfl ml_L_74 vf_X8_panel g8 (Nat.le_of_ble_eq_true rfl) (m_X8_panel hG hC ?_)
  refine xr_aload_2 cx dL_law_442 ?_
  refine xr_aload_0 cx dL_law_443 ?_
  refine xr_iload_3 cx dL_law_444 ?_
  refine xr_iconst (v := 1) cx dL_law_445 (by decide) ?_
  refine xr_iadd cx dL_law_446 ?_
  refine xr_sld (j := i + 1) lx cx dL_law_447 (nI_add i 1) ⟨by omega, hN⟩ ?_
  refine xr_aload_0 cx dL_law_448 ?_
  refine xr_iload_3 cx dL_law_449 ?_
  refine xr_iconst (v := 2) cx dL_law_450 (by decide) ?_
  refine xr_iadd cx dL_law_451 ?_
  refine xr_sld (j := i + 2) lx cx dL_law_452 (nI_add i 2) ⟨by omega, hN⟩ ?_
  refine xr_V2i (ν := mX9_panel) cx dL_law_453 rfl ml_L_77 vf_X9_panel g0 (Nat.le_of_ble_eq_true rfl) (m_X9_panel hG hM hI ?_)
  refine xr_icmp_eq (tgt := 586) cx dL_law_456 (by decide) (fun cq456 => ?_) (fun cq456 => ?_)
  · exact hn σ ⟨a, hl, sn, t, L, hC, hM, hL, ht⟩
  · exact absurd rfl cq456
theorem lw_step {d : Nat} {w : XO} {E : XEnv} {b N i : Nat} {xs : Nat → Int32} {σ : XSt} (hG : xGl E) (cx : CX (d + 9) w E mL) (lx : LX w b N xs) (hi : i + 3 ≤ N) (hN : N ≤ 1536) (hI : LInv σ) (hn : ∀ τ, LInv τ → XG w E 586 [some (.ref b), some (.ref (xad E 8)), some (.ref (xad E 0)), some (.int (nI i))] [] τ) : XG w E 461 [some (.ref b), some (.ref (xad E 8)), some (.ref (xad E 0)), some (.int (nI i))] [] σ := by
  obtain ⟨g0, g1, g2, g3, g4, g5, g6, g7, g8, g72, g73, g158, g159, g160, g161, g162, g163, L9, L30, L51, L74, L95, L116, L137⟩ := id hG
  obtain ⟨a, hl, sn, t, L, hC, hM, hL, ht⟩ := hI
  have hI := hC.2.1
  have hL60 := hM.2.2.2.2.1
  refine xr_aload_1 cx dL_law_461 ?_
  refine xr_aload_0 cx dL_law_462 ?_
  refine xr_iload_3 cx dL_law_463 ?_
  refine xr_iconst (v := 1) cx dL_law_464 (by decide) ?_
  refine xr_iadd cx dL_law_465 ?_
  refine xr_sld (j := i + 1) lx cx dL_law_466 (nI_add i 1) ⟨by omega, hN⟩ ?_
  refine xr_aload_0 cx dL_law_467 ?_
  refine xr_iload_3 cx dL_law_468 ?_
  refine xr_iconst (v := 2) cx dL_law_469 (by decide) ?_
  refine xr_iadd cx dL_law_470 ?_
  refine xr_sld (j := i + 2) lx cx dL_law_471 (nI_add i 2) ⟨by omega, hN⟩ ?_
  refine xr_V2i (ν := mX8_step) cx dL_law_472 rfl ml_L_78 vf_X8_step g8 (Nat.le_of_ble_eq_true rfl) (m_X8_step hG hC ?_)
  refine xr_aload_2 cx dL_law_475 ?_
  refine xr_aload_0 cx dL_law_476 ?_
  refine xr_iload_3 cx dL_law_477 ?_
  refine xr_iconst (v := 1) cx dL_law_478 (by decide) ?_
  refine xr_iadd cx dL_law_479 ?_
  refine xr_sld (j := i + 1) lx cx dL_law_480 (nI_add i 1) ⟨by omega, hN⟩ ?_
  refine xr_aload_0 cx dL_law_481 ?_
  refine xr_iload_3 cx dL_law_482 ?_
  refine xr_iconst (v := 2) cx dL_law_483 (by decide) ?_
  refine xr_iadd cx dL_law_484 ?_
  refine xr_sld (j := i + 2) lx cx dL_law_485 (nI_add i 2) ⟨by omega, hN⟩ ?_
  refine xr_V2i (ν := mX9_step) cx dL_law_486 rfl ml_L_81 vf_X9_step g0 (Nat.le_of_ble_eq_true rfl) (m_X9_step hG hM hI ?_)
  refine xr_icmp_eq (tgt := 586) cx dL_law_489 (by decide) (fun cq489 => ?_) (fun cq489 => ?_)
  · exact hn σ ⟨a, hl, sn, t, L, hC, hM, hL, ht⟩
  · exact absurd rfl cq489
theorem lw_photoOf {d : Nat} {w : XO} {E : XEnv} {b N i : Nat} {xs : Nat → Int32} {σ : XSt} (hG : xGl E) (cx : CX (d + 9) w E mL) (lx : LX w b N xs) (hi : i + 3 ≤ N) (hN : N ≤ 1536) (hI : LInv σ) (hn : ∀ τ, LInv τ → XG w E 586 [some (.ref b), some (.ref (xad E 8)), some (.ref (xad E 0)), some (.int (nI i))] [] τ) : XG w E 494 [some (.ref b), some (.ref (xad E 8)), some (.ref (xad E 0)), some (.int (nI i))] [] σ := by
  obtain ⟨g0, g1, g2, g3, g4, g5, g6, g7, g8, g72, g73, g158, g159, g160, g161, g162, g163, L9, L30, L51, L74, L95, L116, L137⟩ := id hG
  obtain ⟨a, hl, sn, t, L, hC, hM, hL, ht⟩ := hI
  have hI := hC.2.1
  have hL60 := hM.2.2.2.2.1
  refine xr_aload_1 cx dL_law_494 ?_
  refine xr_aload_0 cx dL_law_495 ?_
  refine xr_iload_3 cx dL_law_496 ?_
  refine xr_iconst (v := 1) cx dL_law_497 (by decide) ?_
  refine xr_iadd cx dL_law_498 ?_
  refine xr_sld (j := i + 1) lx cx dL_law_499 (nI_add i 1) ⟨by omega, hN⟩ ?_
  refine xr_aload_0 cx dL_law_500 ?_
  refine xr_iload_3 cx dL_law_501 ?_
  refine xr_iconst (v := 2) cx dL_law_502 (by decide) ?_
  refine xr_iadd cx dL_law_503 ?_
  refine xr_sld (j := i + 2) lx cx dL_law_504 (nI_add i 2) ⟨by omega, hN⟩ ?_
  refine xr_V2i (ν := mX8_photoOf) cx dL_law_505 rfl ml_L_82 vf_X8_photoOf g8 (Nat.le_of_ble_eq_true rfl) (m_X8_photoOf hG hC ?_)
  refine xr_aload_2 cx dL_law_508 ?_
  refine xr_aload_0 cx dL_law_509 ?_
  refine xr_iload_3 cx dL_law_510 ?_
  refine xr_iconst (v := 1) cx dL_law_511 (by decide) ?_
  refine xr_iadd cx dL_law_512 ?_
  refine xr_sld (j := i + 1) lx cx dL_law_513 (nI_add i 1) ⟨by omega, hN⟩ ?_
  refine xr_aload_0 cx dL_law_514 ?_
  refine xr_iload_3 cx dL_law_515 ?_
  refine xr_iconst (v := 2) cx dL_law_516 (by decide) ?_
  refine xr_iadd cx dL_law_517 ?_
  refine xr_sld (j := i + 2) lx cx dL_law_518 (nI_add i 2) ⟨by omega, hN⟩ ?_
  refine xr_V2i (ν := mX9_photoOf) cx dL_law_519 rfl ml_L_85 vf_X9_photoOf g0 (Nat.le_of_ble_eq_true rfl) (m_X9_photoOf hG hM hI ?_)
  refine xr_icmp_eq (tgt := 586) cx dL_law_522 (by decide) (fun cq522 => ?_) (fun cq522 => ?_)
  · exact hn σ ⟨a, hl, sn, t, L, hC, hM, hL, ht⟩
  · exact absurd rfl cq522
theorem lw_wouldBe {d : Nat} {w : XO} {E : XEnv} {b N i : Nat} {xs : Nat → Int32} {σ : XSt} (hG : xGl E) (cx : CX (d + 9) w E mL) (lx : LX w b N xs) (hi : i + 3 ≤ N) (hN : N ≤ 1536) (hI : LInv σ) (hn : ∀ τ, LInv τ → XG w E 586 [some (.ref b), some (.ref (xad E 8)), some (.ref (xad E 0)), some (.int (nI i))] [] τ) : XG w E 527 [some (.ref b), some (.ref (xad E 8)), some (.ref (xad E 0)), some (.int (nI i))] [] σ := by
  obtain ⟨g0, g1, g2, g3, g4, g5, g6, g7, g8, g72, g73, g158, g159, g160, g161, g162, g163, L9, L30, L51, L74, L95, L116, L137⟩ := id hG
  obtain ⟨a, hl, sn, t, L, hC, hM, hL, ht⟩ := hI
  have hI := hC.2.1
  have hL60 := hM.2.2.2.2.1
  refine xr_aload_1 cx dL_law_527 ?_
  refine xr_aload_0 cx dL_law_528 ?_
  refine xr_iload_3 cx dL_law_529 ?_
  refine xr_iconst (v := 1) cx dL_law_530 (by decide) ?_
  refine xr_iadd cx dL_law_531 ?_
  refine xr_sld (j := i + 1) lx cx dL_law_532 (nI_add i 1) ⟨by omega, hN⟩ ?_
  refine xr_V1i (ν := mX8_wouldBe) cx dL_law_533 rfl ml_L_86 vf_X8_wouldBe g8 (Nat.le_of_ble_eq_true rfl) (m_X8_wouldBe hG hC (fun τ hq => ?_))
  refine xr_aload_2 cx dL_law_536 ?_
  refine xr_aload_0 cx dL_law_537 ?_
  refine xr_iload_3 cx dL_law_538 ?_
  refine xr_iconst (v := 1) cx dL_law_539 (by decide) ?_
  refine xr_iadd cx dL_law_540 ?_
  refine xr_sld (j := i + 1) lx cx dL_law_541 (nI_add i 1) ⟨by omega, hN⟩ ?_
  refine xr_V1i (ν := mX9_wouldBe) cx dL_law_542 rfl ml_L_89 vf_X9_wouldBe g0 (Nat.le_of_ble_eq_true rfl) (m_X9_wouldBe hG (CQ_M hq hM) hI (fun ρ r1 r2 => ?_))
  refine xr_icmp_eq (tgt := 586) cx dL_law_545 (by decide) (fun cq545 => ?_) (fun cq545 => ?_)
  · exact hn ρ (LI_q hC hL ht hq r1 r2)
  · exact absurd rfl cq545
theorem lw_photosNeeded {d : Nat} {w : XO} {E : XEnv} {b N i : Nat} {xs : Nat → Int32} {σ : XSt} (hG : xGl E) (cx : CX (d + 9) w E mL) (lx : LX w b N xs) (hi : i + 3 ≤ N) (hN : N ≤ 1536) (hI : LInv σ) (hn : ∀ τ, LInv τ → XG w E 586 [some (.ref b), some (.ref (xad E 8)), some (.ref (xad E 0)), some (.int (nI i))] [] τ) : XG w E 550 [some (.ref b), some (.ref (xad E 8)), some (.ref (xad E 0)), some (.int (nI i))] [] σ := by
  obtain ⟨g0, g1, g2, g3, g4, g5, g6, g7, g8, g72, g73, g158, g159, g160, g161, g162, g163, L9, L30, L51, L74, L95, L116, L137⟩ := id hG
  obtain ⟨a, hl, sn, t, L, hC, hM, hL, ht⟩ := hI
  have hI := hC.2.1
  have hL60 := hM.2.2.2.2.1
  refine xr_aload_1 cx dL_law_550 ?_
  refine xr_V0i (ν := mX8_photosNeeded) cx dL_law_551 rfl ml_L_90 vf_X8_photosNeeded g8 (Nat.le_of_ble_eq_true rfl) (m_X8_photosNeeded hG hC (fun τ hq => ?_))
  refine xr_aload_2 cx dL_law_554 ?_
  refine xr_V0i (ν := mX9_photosNeeded) cx dL_law_555 rfl ml_L_93 vf_X9_photosNeeded g0 (Nat.le_of_ble_eq_true rfl) (m_X9_photosNeeded hG (CQ_M hq hM) hI (fun ρ r1 r2 => ?_))
  refine xr_icmp_eq (tgt := 586) cx dL_law_558 (by decide) (fun cq558 => ?_) (fun cq558 => ?_)
  · exact hn ρ (LI_q hC hL ht hq r1 r2)
  · exact absurd rfl cq558
theorem lw_count {d : Nat} {w : XO} {E : XEnv} {b N i : Nat} {xs : Nat → Int32} {σ : XSt} (hG : xGl E) (cx : CX (d + 9) w E mL) (lx : LX w b N xs) (hi : i + 3 ≤ N) (hN : N ≤ 1536) (hI : LInv σ) (hn : ∀ τ, LInv τ → XG w E 586 [some (.ref b), some (.ref (xad E 8)), some (.ref (xad E 0)), some (.int (nI i))] [] τ) : XG w E 563 [some (.ref b), some (.ref (xad E 8)), some (.ref (xad E 0)), some (.int (nI i))] [] σ := by
  obtain ⟨g0, g1, g2, g3, g4, g5, g6, g7, g8, g72, g73, g158, g159, g160, g161, g162, g163, L9, L30, L51, L74, L95, L116, L137⟩ := id hG
  obtain ⟨a, hl, sn, t, L, hC, hM, hL, ht⟩ := hI
  have hI := hC.2.1
  have hL60 := hM.2.2.2.2.1
  refine xr_aload_1 cx dL_law_563 ?_
  refine xr_aload_0 cx dL_law_564 ?_
  refine xr_iload_3 cx dL_law_565 ?_
  refine xr_iconst (v := 1) cx dL_law_566 (by decide) ?_
  refine xr_iadd cx dL_law_567 ?_
  refine xr_sld (j := i + 1) lx cx dL_law_568 (nI_add i 1) ⟨by omega, hN⟩ ?_
  refine xr_V1i (ν := mX8_count) cx dL_law_569 rfl ml_L_94 vf_X8_count g8 (Nat.le_of_ble_eq_true rfl) (m_X8_count hG hC hL ?_)
  refine xr_aload_2 cx dL_law_572 ?_
  refine xr_aload_0 cx dL_law_573 ?_
  refine xr_iload_3 cx dL_law_574 ?_
  refine xr_iconst (v := 1) cx dL_law_575 (by decide) ?_
  refine xr_iadd cx dL_law_576 ?_
  refine xr_sld (j := i + 1) lx cx dL_law_577 (nI_add i 1) ⟨by omega, hN⟩ ?_
  refine xr_V1i (ν := mX9_count) cx dL_law_578 rfl ml_L_97 vf_X9_count g0 (Nat.le_of_ble_eq_true rfl) (m_X9_count hG hM hI ?_)
  refine xr_icmp_eq (tgt := 586) cx dL_law_581 (by decide) (fun cq581 => ?_) (fun cq581 => ?_)
  · exact hn σ ⟨a, hl, sn, t, L, hC, hM, hL, ht⟩
  · exact absurd rfl cq581
