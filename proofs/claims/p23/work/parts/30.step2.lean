section ZK
variable {a : Nat → Int32} {p : Nat}
theorem bt_lt {m n k : Nat} (h : m < 2 ^ n) (hk : n ≤ k) : bt (nI m) k = false := by
  show (BitVec.ofNat 32 m).getLsbD k = false
  rw [BitVec.getLsbD_ofNat, Nat.testBit_lt_two_pow (Nat.lt_of_lt_of_le h (Nat.pow_le_pow_right (by decide) hk)), Bool.and_false]
theorem p2_lt {n : Nat} (h : n < 31) : 2 ^ n < 2 ^ 31 := Nat.pow_lt_pow_right (by decide) h
theorem shl1 {n : Nat} (h : n < 31) : (1 : Int32) <<< (nI n &&& 31) = nI (2 ^ n) := by
  have := pk_shlN (n := 1) (nI n &&& 31) n (s_l n (by omega)) (by have := p2_lt h; omega)
  rw [Nat.one_mul] at this
  exact this
theorem mPlan_2 {x y : Int32} : mPlan a x y 2 = a 2 := by
  unfold mPlan
  rw [upd_ne _ _ (by omega), upd_ne _ _ (by omega), upd_ne _ _ (by omega)]
theorem ask_none {s : Nat} (hx : xIx a) (hp : mPan a s = none) : (mAsk a s).2 8 = a 8 ∧ (mAsk a s).2 14 + (mAsk a s).2 15 + (mAsk a s).2 16 = a 14 + a 15 + a 16 + 1 ∧ mSt (mAsk a s).2 = mSt a ∧ (mAsk a s).1 = 3 - (if bt (mPh (mAsk a s).2) s = true then 1 else 0) := by
  obtain ⟨b1, b2, b3, b4⟩ := xIx_b hx
  have e0 : ∀ j, j < 169 → upd a (169 + s) (a (169 + s) + 1) j = a j := fun j hj => upd_ne a _ (by omega)
  rw [mAsk_none hp]
  generalize upd a (169 + s) (a (169 + s) + 1) = b at e0
  have ep : ∀ k (v : Int32), 10 < k → k < 69 → mPh (upd b k v) = mPh a := fun k v h1 h2 => mPh_e (by rw [upd_ne _ _ (by omega), e0 _ (by omega)]) (fun j hj => by rw [upd_ne _ _ (by omega), e0 _ (by omega)])
  by_cases hb : bt (mPh a) s = true
  · rw [if_pos hb]
    refine ⟨?_, ?_, ?_, ?_⟩
    · show upd b 15 (b 15 + 1) 8 = a 8
      rw [upd_ne _ _ (by omega), e0 _ (by omega)]
    · show upd b 15 (b 15 + 1) 14 + upd b 15 (b 15 + 1) 15 + upd b 15 (b 15 + 1) 16 = _
      rw [upd_same, upd_ne _ _ (by omega), upd_ne _ _ (by omega), e0 _ (by omega), e0 _ (by omega), e0 _ (by omega)]
      ac_rfl
    · exact mSt_e (show upd b 15 (b 15 + 1) 1 = a 1 by rw [upd_ne _ _ (by omega), e0 _ (by omega)])
    · show (2 : Int32) = 3 - (if bt (mPh (upd b 15 (b 15 + 1))) s = true then 1 else 0)
      rw [ep 15 _ (by omega) (by omega), if_pos hb]
      rfl
  · rw [if_neg hb]
    refine ⟨?_, ?_, ?_, ?_⟩
    · show upd b 16 (b 16 + 1) 8 = a 8
      rw [upd_ne _ _ (by omega), e0 _ (by omega)]
    · show upd b 16 (b 16 + 1) 14 + upd b 16 (b 16 + 1) 15 + upd b 16 (b 16 + 1) 16 = _
      rw [upd_same, upd_ne _ _ (by omega), upd_ne _ _ (by omega), e0 _ (by omega), e0 _ (by omega), e0 _ (by omega)]
      ac_rfl
    · exact mSt_e (show upd b 16 (b 16 + 1) 1 = a 1 by rw [upd_ne _ _ (by omega), e0 _ (by omega)])
    · show (3 : Int32) = 3 - (if bt (mPh (upd b 16 (b 16 + 1))) s = true then 1 else 0)
      rw [ep 16 _ (by omega) (by omega), if_neg hb]
      rfl
theorem ask_some {s q : Nat} (hz : zInv a) (hp : mPan a s = some q) : (mAsk a s).2 8 = a 8 + (mAsk a s).1 ∧ (mAsk a s).2 14 + (mAsk a s).2 15 + (mAsk a s).2 16 = a 14 + a 15 + a 16 + 1 ∧ ¬ 2 ≤ (mAsk a s).1 ∧ mFront (mAsk a s).2 q = true := by
  have hq := mPan_lt hp
  have e0 : ∀ j, j < 169 → upd a (169 + s) (a (169 + s) + 1) j = a j := fun j hj => upd_ne a _ (by omega)
  rw [mAsk_some hp]
  generalize upd a (169 + s) (a (169 + s) + 1) = b at e0
  have hf : zFr b := zFr_e hz.2.1 (fun j hj => e0 _ (by omega))
  have ef : mFront b q = mFront a q := by unfold mFront; rw [e0 _ (by omega)]
  refine ⟨?_, ?_, ?_, ?_⟩
  · show upd (mBring b q) 14 (mBring b q 14 + 1) 8 = a 8 + (if mFront a q = true then 0 else 1)
    rw [upd_ne _ _ (by omega), mBring_8, ef, e0 _ (by omega)]
  · show upd (mBring b q) 14 (mBring b q 14 + 1) 14 + upd (mBring b q) 14 (mBring b q 14 + 1) 15 + upd (mBring b q) 14 (mBring b q 14 + 1) 16 = _
    rw [upd_same, upd_ne _ _ (by omega), upd_ne _ _ (by omega), mBring_ne hq (by omega) (by omega), mBring_ne hq (by omega) (by omega), mBring_ne hq (by omega) (by omega), e0 _ (by omega), e0 _ (by omega), e0 _ (by omega)]
    ac_rfl
  · show ¬ (2 : Int32) ≤ (if mFront a q = true then 0 else 1)
    split <;> decide
  · refine mFront_at ?_
    show upd (mBring b q) 14 (mBring b q 14 + 1) (4 + q / 2) = nI q
    rw [upd_ne _ _ (by omega)]
    exact mBring_at hf hq
theorem zw_num {q : Nat} (hz : zInv a) (hI : xInv a) (hg : mGo a = some q) : ¬ zBits (mWrite a q (139 + mWr a)) + 1 < mWrite a q 11 + mWrite a q 12 + mWrite a q 13 - (a 11 + a 12 + a 13) + mWrite a q 8 - a 8 := by
  obtain ⟨b1, b2, b3, b4⟩ := xIx_b hI.1
  obtain ⟨g1, g2, g3, g4⟩ := mGo_at hI.1 hg
  obtain ⟨w1, w2, x1, x2, x3, x4, w3, w4, w5, w6, w7, w8⟩ := zw hz hI hg
  have hc := zc_le (bt (a (139 + mWr a))) 30
  have e : mWrite a q 11 + mWrite a q 12 + mWrite a q 13 - (a 11 + a 12 + a 13) + mWrite a q 8 - a 8 = nI (x1 + x2 + x3 + x4) := by
    rw [w3, w4, w5, w6, show a 11 + nI x1 + (a 12 + nI x2) + (a 13 + nI x3) = (a 11 + a 12 + a 13) + nI (x1 + x2 + x3) by rw [← nI_add, ← nI_add]; ac_rfl, i_add_sub, show nI (x1 + x2 + x3) + (a 8 + nI x4) = a 8 + nI (x1 + x2 + x3 + x4) by rw [← nI_add (x1 + x2 + x3) x4]; ac_rfl, i_add_sub]
  rw [e, mWrite_fp g1 (by omega), zBits_n, nI_1]
  exact nI_nlt (by omega) (by omega)
theorem w_alone {q : Nat} (hI : xInv a) (hg : mGo a = some q) (hq : q ≠ mUs a) : mWrite a q (17 + q) = 1 <<< (a 2 &&& 31) := by
  obtain ⟨g1, g2, g3, g4⟩ := mGo_at hI.1 hg
  rw [mWrite_on g1 g1, if_pos rfl, if_pos hq, Int32.zero_or, hI.1.2.1]
  rfl
theorem w_pan {q : Nat} (hI : xInv a) (hg : mGo a = some q) : mPan (mWrite a q) (mWr a) = some q := by
  obtain ⟨b1, b2, b3, b4⟩ := xIx_b hI.1
  obtain ⟨g1, g2, g3, g4⟩ := mGo_at hI.1 hg
  refine mPan_eq (mWrite_inv hI g1 g2) (by omega) g1 ?_
  rw [mWrite_on g1 g1, if_pos rfl, b_or, bt_xbit (by omega) (by omega), decide_eq_true rfl, Bool.or_true]
theorem w_pin {q : Nat} (hI : xInv a) (hg : mGo a = some q) (hq : q ≠ mUs a) : ¬ bt (mWrite a q 7) q = true := by
  obtain ⟨g1, g2, g3, g4⟩ := mGo_at hI.1 hg
  rw [mWrite_fp g1 (by omega)]
  have := g4 hq
  unfold mPin at this
  rw [this]
  decide
end ZK
theorem ls_plant {d : Nat} {w : XO} {E : XEnv} {a : Nat → Int32} {hl : List (Nat → Int32)} {σ : XSt} {Q : Int32 → XSt → Prop} {x y z : Int32} {p : Nat} (hG : xGl E) (cx : CX (d + 7) w E mL_isStep) (cz : CZi w E Q) (hS : zLS σ a hl) (hp : p < 6) (hQ : ∀ τ, zLI τ → Q 1 τ) {nd : Int32} (hb : ∀ k, mSt a ≤ k → k < 32 → bt nd k = false) : XG w E 153 [some (.ref (xad E 0)), some (.int x), some (.int y), some (.int z), some (.int (nI p)), some (.int (a 1)), some (.int (a 2)), some (.int (a 8)), some (.int (a 9)), none, none, none, none] [.int nd] σ := by
  obtain ⟨g8, g72, g73, g158, g159, g160, g161, g162, g163, L9, L30, L51, L74, L95, L116, L137⟩ := id hG
  have hI := hS.1.2.1
  have hz := hS.2.2.1
  obtain ⟨b1, b2, b3, b4⟩ := xIx_b hI.1
  obtain ⟨ix1, ix2, ix3, ix4, -⟩ := id hI.1
  by_cases h30 : mSt a < 30
  · refine xr_istore_9 cx dL_isStep_153 ?_
    refine xr_aload_0 cx dL_isStep_155 ?_
    refine xr_iconst (v := 1) cx dL_isStep_156 (by decide) ?_
    refine xr_iload_3 cx dL_isStep_157 ?_
    refine xr_iconst (v := 4) cx dL_isStep_158 (by decide) ?_
    refine xr_S2i (ν := mL_up) cx dL_isStep_159 rfl ml_L_15 sf_L_up (Nat.le_of_ble_eq_true rfl) (m_L_up 4 rfl (by decide) (by decide) (fun j hj => ?_))
    refine xr_iadd cx dL_isStep_162 ?_
    refine xr_iload_9 cx dL_isStep_163 ?_
    refine xr_V2i (ν := mX8_plan) cx dL_isStep_165 rfl ml_L_21 vf_X8_plan g8 (Nat.le_of_ble_eq_true rfl) (q_plan_s hG hS (e_plan_s hI hj hb h30) (zInv_plan hz hI (by omega) h30) (fun τ hT => ?_))
    refine xr_istore_10 cx dL_isStep_168 ?_
    refine xr_iload_10 cx dL_isStep_170 ?_
    refine xr_iload_5 cx dL_isStep_172 ?_
    refine xr_bipush (v := 30) cx dL_isStep_174 (by decide) ?_
    refine xr_icmp_ne (tgt := 184) cx dL_isStep_176 (by decide) (fun cq176 => ?_) (fun cq176 => ?_)
    · refine xr_iload_5 cx dL_isStep_184 ?_
      refine xr_icmp_ne (tgt := 203) cx dL_isStep_186 (by decide) (fun cq186 => ?_) (fun cq186 => ?_)
      · exact absurd (rfl) cq186
      · refine xr_aload_0 cx dL_isStep_189 ?_
        refine xr_iconst (v := 1) cx dL_isStep_190 (by decide) ?_
        refine xr_V1i (ν := mX8_count) cx dL_isStep_191 rfl ml_L_9 vf_X8_count g8 (Nat.le_of_ble_eq_true rfl) (q_count (j := 1) (v := mPlan a (nI (1 + j)) nd 2) hG hT rfl rfl ?_)
        refine xr_iload_6 cx dL_isStep_194 ?_
        refine xr_icmp_ne (tgt := 203) cx dL_isStep_196 (by decide) (fun cq196 => ?_) (fun cq196 => ?_)
        · exact absurd (mPlan_2) cq196
        · refine xr_iconst (v := 1) cx dL_isStep_199 (by decide) ?_
          refine xr_goto (tgt := 204) cx dL_isStep_200 (by decide) ?_
          refine xr_zret cx cz dL_isStep_204 rfl rfl ?_
          exact hQ _ ⟨_, _, hT⟩
    · exact absurd cq176 (fun q => by rw [ix1] at q; have := (nI_eq (b := 30) (by omega) (by decide)).mp q; omega)
  · refine xr_istore_9 cx dL_isStep_153 ?_
    refine xr_aload_0 cx dL_isStep_155 ?_
    refine xr_iconst (v := 1) cx dL_isStep_156 (by decide) ?_
    refine xr_iload_3 cx dL_isStep_157 ?_
    refine xr_iconst (v := 4) cx dL_isStep_158 (by decide) ?_
    refine xr_S2i (ν := mL_up) cx dL_isStep_159 rfl ml_L_15 sf_L_up (Nat.le_of_ble_eq_true rfl) (m_L_up 4 rfl (by decide) (by decide) (fun j hj => ?_))
    refine xr_iadd cx dL_isStep_162 ?_
    refine xr_iload_9 cx dL_isStep_163 ?_
    refine xr_V2i (ν := mX8_plan) cx dL_isStep_165 rfl ml_L_21 vf_X8_plan g8 (Nat.le_of_ble_eq_true rfl) (q_plan_n hG hS (e_plan_f hI hj hb (by omega)) ?_)
    refine xr_istore_10 cx dL_isStep_168 ?_
    refine xr_iload_10 cx dL_isStep_170 ?_
    refine xr_iload_5 cx dL_isStep_172 ?_
    refine xr_bipush (v := 30) cx dL_isStep_174 (by decide) ?_
    refine xr_icmp_ne (tgt := 184) cx dL_isStep_176 (by decide) (fun cq176 => ?_) (fun cq176 => ?_)
    · exact absurd (by rw [ix1, show mSt a = 30 by omega]; rfl) cq176
    · refine xr_bipush (v := -3) cx dL_isStep_179 (by decide) ?_
      refine xr_goto (tgt := 186) cx dL_isStep_181 (by decide) ?_
      refine xr_icmp_ne (tgt := 203) cx dL_isStep_186 (by decide) (fun cq186 => ?_) (fun cq186 => ?_)
      · exact absurd (rfl) cq186
      · refine xr_aload_0 cx dL_isStep_189 ?_
        refine xr_iconst (v := 1) cx dL_isStep_190 (by decide) ?_
        refine xr_V1i (ν := mX8_count) cx dL_isStep_191 rfl ml_L_9 vf_X8_count g8 (Nat.le_of_ble_eq_true rfl) (q_count (j := 1) (v := a 2) hG hS rfl rfl ?_)
        refine xr_iload_6 cx dL_isStep_194 ?_
        refine xr_icmp_ne (tgt := 203) cx dL_isStep_196 (by decide) (fun cq196 => ?_) (fun cq196 => ?_)
        · exact absurd (rfl) cq196
        · refine xr_iconst (v := 1) cx dL_isStep_199 (by decide) ?_
          refine xr_goto (tgt := 204) cx dL_isStep_200 (by decide) ?_
          refine xr_zret cx cz dL_isStep_204 rfl rfl ?_
          exact hQ _ ⟨_, _, hS⟩
theorem ls_plan {d : Nat} {w : XO} {E : XEnv} {a : Nat → Int32} {hl : List (Nat → Int32)} {σ : XSt} {Q : Int32 → XSt → Prop} {x y z : Int32} {p : Nat} (hG : xGl E) (cx : CX (d + 7) w E mL_isStep) (cz : CZi w E Q) (hS : zLS σ a hl) (hp : p < 6) (hQ : ∀ τ, zLI τ → Q 1 τ) : XG w E 124 [some (.ref (xad E 0)), some (.int x), some (.int y), some (.int z), some (.int (nI p)), some (.int (a 1)), some (.int (a 2)), some (.int (a 8)), some (.int (a 9)), none, none, none, none] [] σ := by
  obtain ⟨g8, g72, g73, g158, g159, g160, g161, g162, g163, L9, L30, L51, L74, L95, L116, L137⟩ := id hG
  have hI := hS.1.2.1
  have hz := hS.2.2.1
  obtain ⟨b1, b2, b3, b4⟩ := xIx_b hI.1
  obtain ⟨ix1, ix2, ix3, ix4, -⟩ := id hI.1
  by_cases h1 : a 1 = 0
  · refine xr_iload_5 cx dL_isStep_124 ?_
    refine xr_if_eq (tgt := 136) cx dL_isStep_126 (by decide) (fun cq126 => ?_) (fun cq126 => ?_)
    · refine xr_iconst (v := 0) cx dL_isStep_136 (by decide) ?_
      refine xr_goto (tgt := 153) cx dL_isStep_137 (by decide) ?_
      exact ls_plant hG cx cz hS hp hQ (fun k _ _ => b_0 k)
    · exact absurd (h1) cq126
  · by_cases h30 : a 1 = 30
    · refine xr_iload_5 cx dL_isStep_124 ?_
      refine xr_if_eq (tgt := 136) cx dL_isStep_126 (by decide) (fun cq126 => ?_) (fun cq126 => ?_)
      · exact absurd cq126 (h1)
      · refine xr_iload_5 cx dL_isStep_129 ?_
        refine xr_bipush (v := 30) cx dL_isStep_131 (by decide) ?_
        refine xr_icmp_ne (tgt := 140) cx dL_isStep_133 (by decide) (fun cq133 => ?_) (fun cq133 => ?_)
        · exact absurd (h30) cq133
        · refine xr_iconst (v := 0) cx dL_isStep_136 (by decide) ?_
          refine xr_goto (tgt := 153) cx dL_isStep_137 (by decide) ?_
          exact ls_plant hG cx cz hS hp hQ (fun k _ _ => b_0 k)
    · obtain ⟨j, hj, ej⟩ := pk_andE y (m := 2147483647) 31 (by decide)
      have hs : (1 : Int32) <<< (a 1 &&& 31) = nI (2 ^ mSt a) := by rw [ix1]; exact shl1 (by omega)
      refine xr_iload_5 cx dL_isStep_124 ?_
      refine xr_if_eq (tgt := 136) cx dL_isStep_126 (by decide) (fun cq126 => ?_) (fun cq126 => ?_)
      · exact absurd cq126 (h1)
      · refine xr_iload_5 cx dL_isStep_129 ?_
        refine xr_bipush (v := 30) cx dL_isStep_131 (by decide) ?_
        refine xr_icmp_ne (tgt := 140) cx dL_isStep_133 (by decide) (fun cq133 => ?_) (fun cq133 => ?_)
        · refine xr_iload_2 cx dL_isStep_140 ?_
          refine xr_ldc cx dL_isStep_141 kc_L_8 ?_
          refine xr_iand cx dL_isStep_143 ?_
          rw [ej]
          refine xr_iconst (v := 1) cx dL_isStep_144 (by decide) ?_
          refine xr_iload_5 cx dL_isStep_145 ?_
          refine xr_ishl cx dL_isStep_147 ?_
          rw [hs]
          refine xr_irem cx dL_isStep_148 (nI_ne0 (Nat.two_pow_pos _) (p2_lt (by omega))) ?_
          rw [pk_rem hj (Nat.two_pow_pos _) (p2_lt (by omega))]
          refine xr_iload_2 cx dL_isStep_149 ?_
          refine xr_iconst (v := 3) cx dL_isStep_150 (by decide) ?_
          refine xr_ishr cx dL_isStep_151 ?_
          refine xr_iand cx dL_isStep_152 ?_
          exact ls_plant hG cx cz hS hp hQ (fun k h1 h2 => by rw [b_and, bt_lt (Nat.mod_lt _ (Nat.two_pow_pos _)) h1, Bool.false_and])
        · exact absurd cq133 (h30)
theorem ls_askt {d : Nat} {w : XO} {E : XEnv} {a : Nat → Int32} {hl : List (Nat → Int32)} {σ : XSt} {Q : Int32 → XSt → Prop} {x y z : Int32} {p : Nat} (hG : xGl E) (cx : CX (d + 7) w E mL_isStep) (cz : CZi w E Q) (hS : zLS σ a hl) (hp : p < 6) (hQ : ∀ τ, zLI τ → Q 1 τ) {s : Nat} (hs : s < mWr a) : XG w E 750 [some (.ref (xad E 0)), some (.int x), some (.int y), some (.int z), some (.int (nI p)), some (.int (a 1)), some (.int (a 2)), some (.int (a 8)), some (.int (a 9)), none, none, none, none] [.int (nI s)] σ := by
  obtain ⟨g8, g72, g73, g158, g159, g160, g161, g162, g163, L9, L30, L51, L74, L95, L116, L137⟩ := id hG
  have hI := hS.1.2.1
  have hz := hS.2.2.1
  obtain ⟨b1, b2, b3, b4⟩ := xIx_b hI.1
  obtain ⟨ix1, ix2, ix3, ix4, -⟩ := id hI.1
  cases hpn : mPan a s with
  | none =>
    obtain ⟨k1, k2, k3, k4⟩ := ask_none hI.1 hpn
    refine xr_istore_9 cx dL_isStep_750 ?_
    refine xr_aload_0 cx dL_isStep_752 ?_
    refine xr_iload_9 cx dL_isStep_753 ?_
    refine xr_iconst (v := 3) cx dL_isStep_755 (by decide) ?_
    refine xr_V2i (ν := mX8_step) cx dL_isStep_756 rfl ml_L_32 vf_X8_step g8 (Nat.le_of_ble_eq_true rfl) (q_step (j := 3) (v := -5) hG hS (by omega) rfl rfl (by rw [hpn]; rfl) ?_)
    refine xr_istore_10 cx dL_isStep_759 ?_
    refine xr_aload_0 cx dL_isStep_761 ?_
    refine xr_bipush (v := 9) cx dL_isStep_762 (by decide) ?_
    refine xr_V1i (ν := mX8_count) cx dL_isStep_764 rfl ml_L_9 vf_X8_count g8 (Nat.le_of_ble_eq_true rfl) (q_count (j := 9) (v := a 14) hG hS rfl rfl ?_)
    refine xr_aload_0 cx dL_isStep_767 ?_
    refine xr_bipush (v := 10) cx dL_isStep_768 (by decide) ?_
    refine xr_V1i (ν := mX8_count) cx dL_isStep_770 rfl ml_L_9 vf_X8_count g8 (Nat.le_of_ble_eq_true rfl) (q_count (j := 10) (v := a 15) hG hS rfl rfl ?_)
    refine xr_iadd cx dL_isStep_773 ?_
    refine xr_aload_0 cx dL_isStep_774 ?_
    refine xr_bipush (v := 11) cx dL_isStep_775 (by decide) ?_
    refine xr_V1i (ν := mX8_count) cx dL_isStep_777 rfl ml_L_9 vf_X8_count g8 (Nat.le_of_ble_eq_true rfl) (q_count (j := 11) (v := a 16) hG hS rfl rfl ?_)
    refine xr_iadd cx dL_isStep_780 ?_
    refine xr_istore_11 cx dL_isStep_781 ?_
    refine xr_aload_0 cx dL_isStep_783 ?_
    refine xr_iload_9 cx dL_isStep_784 ?_
    refine xr_V1i (ν := mX8_ask) cx dL_isStep_786 rfl ml_L_54 vf_X8_ask g8 (Nat.le_of_ble_eq_true rfl) (q_ask_s hG hS (e_ask_s hI hs) (zInv_ask hz hI (by omega)) (fun τ hT => ?_))
    refine xr_istore_12 cx dL_isStep_789 ?_
    refine xr_aload_0 cx dL_isStep_791 ?_
    refine xr_bipush (v := 9) cx dL_isStep_792 (by decide) ?_
    refine xr_V1i (ν := mX8_count) cx dL_isStep_794 rfl ml_L_9 vf_X8_count g8 (Nat.le_of_ble_eq_true rfl) (q_count (j := 9) (v := (mAsk a s).2 14) hG hT rfl rfl ?_)
    refine xr_aload_0 cx dL_isStep_797 ?_
    refine xr_bipush (v := 10) cx dL_isStep_798 (by decide) ?_
    refine xr_V1i (ν := mX8_count) cx dL_isStep_800 rfl ml_L_9 vf_X8_count g8 (Nat.le_of_ble_eq_true rfl) (q_count (j := 10) (v := (mAsk a s).2 15) hG hT rfl rfl ?_)
    refine xr_iadd cx dL_isStep_803 ?_
    refine xr_aload_0 cx dL_isStep_804 ?_
    refine xr_bipush (v := 11) cx dL_isStep_805 (by decide) ?_
    refine xr_V1i (ν := mX8_count) cx dL_isStep_807 rfl ml_L_9 vf_X8_count g8 (Nat.le_of_ble_eq_true rfl) (q_count (j := 11) (v := (mAsk a s).2 16) hG hT rfl rfl ?_)
    refine xr_iadd cx dL_isStep_810 ?_
    refine xr_iload_11 cx dL_isStep_811 ?_
    refine xr_iconst (v := 1) cx dL_isStep_813 (by decide) ?_
    refine xr_iadd cx dL_isStep_814 ?_
    refine xr_icmp_ne (tgt := 884) cx dL_isStep_815 (by decide) (fun cq815 => ?_) (fun cq815 => ?_)
    · exact absurd (k2) cq815
    · refine xr_iload_10 cx dL_isStep_818 ?_
      refine xr_if_lt (tgt := 856) cx dL_isStep_820 (by decide) (fun cq820 => ?_) (fun cq820 => ?_)
      · refine xr_iload_12 cx dL_isStep_856 ?_
        refine xr_iconst (v := 3) cx dL_isStep_858 (by decide) ?_
        refine xr_aload_0 cx dL_isStep_859 ?_
        refine xr_iload_9 cx dL_isStep_860 ?_
        refine xr_iconst (v := 4) cx dL_isStep_862 (by decide) ?_
        refine xr_V2i (ν := mX8_step) cx dL_isStep_863 rfl ml_L_32 vf_X8_step g8 (Nat.le_of_ble_eq_true rfl) (q_step (j := 4) (v := if bt (mPh (mAsk a s).2) s = true then 1 else 0) hG hT (by rw [k3]; omega) rfl rfl rfl ?_)
        refine xr_isub cx dL_isStep_866 ?_
        refine xr_icmp_ne (tgt := 884) cx dL_isStep_867 (by decide) (fun cq867 => ?_) (fun cq867 => ?_)
        · exact absurd (k4) cq867
        · refine xr_aload_0 cx dL_isStep_870 ?_
          refine xr_iconst (v := 3) cx dL_isStep_871 (by decide) ?_
          refine xr_V1i (ν := mX8_count) cx dL_isStep_872 rfl ml_L_9 vf_X8_count g8 (Nat.le_of_ble_eq_true rfl) (q_count (j := 3) (v := (mAsk a s).2 8) hG hT rfl rfl ?_)
          refine xr_iload_7 cx dL_isStep_875 ?_
          refine xr_icmp_ne (tgt := 884) cx dL_isStep_877 (by decide) (fun cq877 => ?_) (fun cq877 => ?_)
          · exact absurd (k1) cq877
          · refine xr_iconst (v := 1) cx dL_isStep_880 (by decide) ?_
            refine xr_goto (tgt := 885) cx dL_isStep_881 (by decide) ?_
            refine xr_zret cx cz dL_isStep_885 rfl rfl ?_
            exact hQ _ ⟨_, _, hT⟩
      · exact absurd (by decide) cq820
  | some q =>
    have hq6 := mPan_lt hpn
    obtain ⟨k1, k2, k3, k4⟩ := ask_some hz hpn
    refine xr_istore_9 cx dL_isStep_750 ?_
    refine xr_aload_0 cx dL_isStep_752 ?_
    refine xr_iload_9 cx dL_isStep_753 ?_
    refine xr_iconst (v := 3) cx dL_isStep_755 (by decide) ?_
    refine xr_V2i (ν := mX8_step) cx dL_isStep_756 rfl ml_L_32 vf_X8_step g8 (Nat.le_of_ble_eq_true rfl) (q_step (j := 3) (v := nI q) hG hS (by omega) rfl rfl (by rw [hpn]; rfl) ?_)
    refine xr_istore_10 cx dL_isStep_759 ?_
    refine xr_aload_0 cx dL_isStep_761 ?_
    refine xr_bipush (v := 9) cx dL_isStep_762 (by decide) ?_
    refine xr_V1i (ν := mX8_count) cx dL_isStep_764 rfl ml_L_9 vf_X8_count g8 (Nat.le_of_ble_eq_true rfl) (q_count (j := 9) (v := a 14) hG hS rfl rfl ?_)
    refine xr_aload_0 cx dL_isStep_767 ?_
    refine xr_bipush (v := 10) cx dL_isStep_768 (by decide) ?_
    refine xr_V1i (ν := mX8_count) cx dL_isStep_770 rfl ml_L_9 vf_X8_count g8 (Nat.le_of_ble_eq_true rfl) (q_count (j := 10) (v := a 15) hG hS rfl rfl ?_)
    refine xr_iadd cx dL_isStep_773 ?_
    refine xr_aload_0 cx dL_isStep_774 ?_
    refine xr_bipush (v := 11) cx dL_isStep_775 (by decide) ?_
    refine xr_V1i (ν := mX8_count) cx dL_isStep_777 rfl ml_L_9 vf_X8_count g8 (Nat.le_of_ble_eq_true rfl) (q_count (j := 11) (v := a 16) hG hS rfl rfl ?_)
    refine xr_iadd cx dL_isStep_780 ?_
    refine xr_istore_11 cx dL_isStep_781 ?_
    refine xr_aload_0 cx dL_isStep_783 ?_
    refine xr_iload_9 cx dL_isStep_784 ?_
    refine xr_V1i (ν := mX8_ask) cx dL_isStep_786 rfl ml_L_54 vf_X8_ask g8 (Nat.le_of_ble_eq_true rfl) (q_ask_s hG hS (e_ask_s hI hs) (zInv_ask hz hI (by omega)) (fun τ hT => ?_))
    refine xr_istore_12 cx dL_isStep_789 ?_
    refine xr_aload_0 cx dL_isStep_791 ?_
    refine xr_bipush (v := 9) cx dL_isStep_792 (by decide) ?_
    refine xr_V1i (ν := mX8_count) cx dL_isStep_794 rfl ml_L_9 vf_X8_count g8 (Nat.le_of_ble_eq_true rfl) (q_count (j := 9) (v := (mAsk a s).2 14) hG hT rfl rfl ?_)
    refine xr_aload_0 cx dL_isStep_797 ?_
    refine xr_bipush (v := 10) cx dL_isStep_798 (by decide) ?_
    refine xr_V1i (ν := mX8_count) cx dL_isStep_800 rfl ml_L_9 vf_X8_count g8 (Nat.le_of_ble_eq_true rfl) (q_count (j := 10) (v := (mAsk a s).2 15) hG hT rfl rfl ?_)
    refine xr_iadd cx dL_isStep_803 ?_
    refine xr_aload_0 cx dL_isStep_804 ?_
    refine xr_bipush (v := 11) cx dL_isStep_805 (by decide) ?_
    refine xr_V1i (ν := mX8_count) cx dL_isStep_807 rfl ml_L_9 vf_X8_count g8 (Nat.le_of_ble_eq_true rfl) (q_count (j := 11) (v := (mAsk a s).2 16) hG hT rfl rfl ?_)
    refine xr_iadd cx dL_isStep_810 ?_
    refine xr_iload_11 cx dL_isStep_811 ?_
    refine xr_iconst (v := 1) cx dL_isStep_813 (by decide) ?_
    refine xr_iadd cx dL_isStep_814 ?_
    refine xr_icmp_ne (tgt := 884) cx dL_isStep_815 (by decide) (fun cq815 => ?_) (fun cq815 => ?_)
    · exact absurd (k2) cq815
    · refine xr_iload_10 cx dL_isStep_818 ?_
      refine xr_if_lt (tgt := 856) cx dL_isStep_820 (by decide) (fun cq820 => ?_) (fun cq820 => ?_)
      · exact absurd cq820 (nI_pos (by omega))
      · refine xr_iload_12 cx dL_isStep_823 ?_
        refine xr_iconst (v := 2) cx dL_isStep_825 (by decide) ?_
        refine xr_icmp_ge (tgt := 884) cx dL_isStep_826 (by decide) (fun cq826 => ?_) (fun cq826 => ?_)
        · exact absurd cq826 (k3)
        · refine xr_aload_0 cx dL_isStep_829 ?_
          refine xr_iload_10 cx dL_isStep_830 ?_
          refine xr_iconst (v := 2) cx dL_isStep_832 (by decide) ?_
          refine xr_V2i (ν := mX8_panel) cx dL_isStep_833 rfl ml_L_38 vf_X8_panel g8 (Nat.le_of_ble_eq_true rfl) (q_panel (j := 2) (v := if mFront (mAsk a s).2 q = true then 1 else 0) hG hT hq6 rfl rfl rfl ?_)
          refine xr_iconst (v := 1) cx dL_isStep_836 (by decide) ?_
          refine xr_icmp_ne (tgt := 884) cx dL_isStep_837 (by decide) (fun cq837 => ?_) (fun cq837 => ?_)
          · exact absurd (if_pos k4) cq837
          · refine xr_aload_0 cx dL_isStep_840 ?_
            refine xr_iconst (v := 3) cx dL_isStep_841 (by decide) ?_
            refine xr_V1i (ν := mX8_count) cx dL_isStep_842 rfl ml_L_9 vf_X8_count g8 (Nat.le_of_ble_eq_true rfl) (q_count (j := 3) (v := (mAsk a s).2 8) hG hT rfl rfl ?_)
            refine xr_iload_7 cx dL_isStep_845 ?_
            refine xr_iload_12 cx dL_isStep_847 ?_
            refine xr_iadd cx dL_isStep_849 ?_
            refine xr_icmp_ne (tgt := 884) cx dL_isStep_850 (by decide) (fun cq850 => ?_) (fun cq850 => ?_)
            · exact absurd (k1) cq850
            · refine xr_goto (tgt := 880) cx dL_isStep_853 (by decide) ?_
              refine xr_iconst (v := 1) cx dL_isStep_880 (by decide) ?_
              refine xr_goto (tgt := 885) cx dL_isStep_881 (by decide) ?_
              refine xr_zret cx cz dL_isStep_885 rfl rfl ?_
              exact hQ _ ⟨_, _, hT⟩
theorem ls_ask {d : Nat} {w : XO} {E : XEnv} {a : Nat → Int32} {hl : List (Nat → Int32)} {σ : XSt} {Q : Int32 → XSt → Prop} {x y z : Int32} {p : Nat} (hG : xGl E) (cx : CX (d + 7) w E mL_isStep) (cz : CZi w E Q) (hS : zLS σ a hl) (hp : p < 6) (hQ : ∀ τ, zLI τ → Q 1 τ) : XG w E 714 [some (.ref (xad E 0)), some (.int x), some (.int y), some (.int z), some (.int (nI p)), some (.int (a 1)), some (.int (a 2)), some (.int (a 8)), some (.int (a 9)), none, none, none, none] [] σ := by
  obtain ⟨g8, g72, g73, g158, g159, g160, g161, g162, g163, L9, L30, L51, L74, L95, L116, L137⟩ := id hG
  have hI := hS.1.2.1
  have hz := hS.2.2.1
  obtain ⟨b1, b2, b3, b4⟩ := xIx_b hI.1
  obtain ⟨ix1, ix2, ix3, ix4, -⟩ := id hI.1
  by_cases h2 : a 2 = 0
  · by_cases h1 : a 1 = 0
    · refine xr_iload_6 cx dL_isStep_714 ?_
      refine xr_if_ne (tgt := 744) cx dL_isStep_716 (by decide) (fun cq716 => ?_) (fun cq716 => ?_)
      · exact absurd (h2) cq716
      · refine xr_aload_0 cx dL_isStep_719 ?_
        refine xr_iconst (v := 0) cx dL_isStep_720 (by decide) ?_
        refine xr_V1i (ν := mX8_ask) cx dL_isStep_721 rfl ml_L_54 vf_X8_ask g8 (Nat.le_of_ble_eq_true rfl) (q_ask_n hG hS (e_ask_u h1) ?_)
        refine xr_iload_5 cx dL_isStep_724 ?_
        refine xr_if_ne (tgt := 733) cx dL_isStep_726 (by decide) (fun cq726 => ?_) (fun cq726 => ?_)
        · exact absurd (h1) cq726
        · refine xr_iconst (v := -1) cx dL_isStep_729 (by decide) ?_
          refine xr_goto (tgt := 735) cx dL_isStep_730 (by decide) ?_
          refine xr_icmp_ne (tgt := 742) cx dL_isStep_735 (by decide) (fun cq735 => ?_) (fun cq735 => ?_)
          · exact absurd (rfl) cq735
          · refine xr_iconst (v := 1) cx dL_isStep_738 (by decide) ?_
            refine xr_goto (tgt := 743) cx dL_isStep_739 (by decide) ?_
            refine xr_zret cx cz dL_isStep_743 rfl rfl ?_
            exact hQ _ ⟨_, _, hS⟩
    · have h1n : ¬ a 1 ≤ 0 := fun q => by rw [ix1] at q h1; exact h1 (by rw [show mSt a = 0 from Nat.le_zero.mp ((nI_leI (b := 0) (by omega) (by decide)).mp q)]; rfl)
      refine xr_iload_6 cx dL_isStep_714 ?_
      refine xr_if_ne (tgt := 744) cx dL_isStep_716 (by decide) (fun cq716 => ?_) (fun cq716 => ?_)
      · exact absurd (h2) cq716
      · refine xr_aload_0 cx dL_isStep_719 ?_
        refine xr_iconst (v := 0) cx dL_isStep_720 (by decide) ?_
        refine xr_V1i (ν := mX8_ask) cx dL_isStep_721 rfl ml_L_54 vf_X8_ask g8 (Nat.le_of_ble_eq_true rfl) (q_ask_n hG hS (e_ask_m h1n h2) ?_)
        refine xr_iload_5 cx dL_isStep_724 ?_
        refine xr_if_ne (tgt := 733) cx dL_isStep_726 (by decide) (fun cq726 => ?_) (fun cq726 => ?_)
        · refine xr_bipush (v := -4) cx dL_isStep_733 (by decide) ?_
          refine xr_icmp_ne (tgt := 742) cx dL_isStep_735 (by decide) (fun cq735 => ?_) (fun cq735 => ?_)
          · exact absurd (rfl) cq735
          · refine xr_iconst (v := 1) cx dL_isStep_738 (by decide) ?_
            refine xr_goto (tgt := 743) cx dL_isStep_739 (by decide) ?_
            refine xr_zret cx cz dL_isStep_743 rfl rfl ?_
            exact hQ _ ⟨_, _, hS⟩
        · exact absurd cq726 (h1)
  · have hw0 : 0 < mWr a := Nat.pos_of_ne_zero (fun q => h2 (by rw [ix2, q]; rfl))
    refine xr_iload_6 cx dL_isStep_714 ?_
    refine xr_if_ne (tgt := 744) cx dL_isStep_716 (by decide) (fun cq716 => ?_) (fun cq716 => ?_)
    · refine xr_iload_3 cx dL_isStep_744 ?_
      refine xr_iload_6 cx dL_isStep_745 ?_
      refine xr_S2i (ν := mL_up) cx dL_isStep_747 rfl ml_L_15 sf_L_up (Nat.le_of_ble_eq_true rfl) (m_L_up (mWr a) ix2 hw0 (by omega) (fun s hs => ?_))
      exact ls_askt hG cx cz hS hp hQ hs
    · exact absurd cq716 (h2)
theorem ls_write {d : Nat} {w : XO} {E : XEnv} {a : Nat → Int32} {hl : List (Nat → Int32)} {σ : XSt} {Q : Int32 → XSt → Prop} {x y z : Int32} {p : Nat} (hG : xGl E) (cx : CX (d + 7) w E mL_isStep) (cz : CZi w E Q) (hS : zLS σ a hl) (hp : p < 6) (hQ : ∀ τ, zLI τ → Q 1 τ) : XG w E 205 [some (.ref (xad E 0)), some (.int x), some (.int y), some (.int z), some (.int (nI p)), some (.int (a 1)), some (.int (a 2)), some (.int (a 8)), some (.int (a 9)), none, none, none, none] [] σ := by
  obtain ⟨g8, g72, g73, g158, g159, g160, g161, g162, g163, L9, L30, L51, L74, L95, L116, L137⟩ := id hG
  have hI := hS.1.2.1
  have hz := hS.2.2.1
  obtain ⟨b1, b2, b3, b4⟩ := xIx_b hI.1
  obtain ⟨ix1, ix2, ix3, ix4, -⟩ := id hI.1
  cases hg : mGo a with
  | none =>
    refine xr_aload_0 cx dL_isStep_205 ?_
    refine xr_S1i (ν := mL_missed) cx dL_isStep_206 rfl ml_L_24 sf_L_missed (Nat.le_of_ble_eq_true rfl) (m_L_missed hG hS ?_)
    refine xr_istore_9 cx dL_isStep_209 ?_
    refine xr_aload_0 cx dL_isStep_211 ?_
    refine xr_iconst (v := 2) cx dL_isStep_212 (by decide) ?_
    refine xr_V1i (ν := mX8_count) cx dL_isStep_213 rfl ml_L_9 vf_X8_count g8 (Nat.le_of_ble_eq_true rfl) (q_count (j := 2) (v := a 3) hG hS rfl rfl ?_)
    refine xr_istore_10 cx dL_isStep_216 ?_
    refine xr_aload_0 cx dL_isStep_218 ?_
    refine xr_V0i (ν := mX8_write) cx dL_isStep_219 rfl ml_L_28 vf_X8_write g8 (Nat.le_of_ble_eq_true rfl) (q_write_n hG hS (oWrite_none hg) ?_)
    refine xr_istore_11 cx dL_isStep_222 ?_
    refine xr_iload_11 cx dL_isStep_224 ?_
    refine xr_if_ge (tgt := 272) cx dL_isStep_226 (by decide) (fun cq226 => ?_) (fun cq226 => ?_)
    · exact absurd cq226 (by decide)
    · refine xr_iload_11 cx dL_isStep_229 ?_
      refine xr_bipush (v := -4) cx dL_isStep_231 (by decide) ?_
      refine xr_icmp_ne (tgt := 270) cx dL_isStep_233 (by decide) (fun cq233 => ?_) (fun cq233 => ?_)
      · exact absurd (rfl) cq233
      · refine xr_aload_0 cx dL_isStep_236 ?_
        refine xr_iconst (v := 1) cx dL_isStep_237 (by decide) ?_
        refine xr_V1i (ν := mX8_count) cx dL_isStep_238 rfl ml_L_9 vf_X8_count g8 (Nat.le_of_ble_eq_true rfl) (q_count (j := 1) (v := a 2) hG hS rfl rfl ?_)
        refine xr_iload_6 cx dL_isStep_241 ?_
        refine xr_icmp_ne (tgt := 270) cx dL_isStep_243 (by decide) (fun cq243 => ?_) (fun cq243 => ?_)
        · exact absurd (rfl) cq243
        · refine xr_aload_0 cx dL_isStep_246 ?_
          refine xr_iconst (v := 3) cx dL_isStep_247 (by decide) ?_
          refine xr_V1i (ν := mX8_count) cx dL_isStep_248 rfl ml_L_9 vf_X8_count g8 (Nat.le_of_ble_eq_true rfl) (q_count (j := 3) (v := a 8) hG hS rfl rfl ?_)
          refine xr_iload_7 cx dL_isStep_251 ?_
          refine xr_icmp_ne (tgt := 270) cx dL_isStep_253 (by decide) (fun cq253 => ?_) (fun cq253 => ?_)
          · exact absurd (rfl) cq253
          · refine xr_aload_0 cx dL_isStep_256 ?_
            refine xr_iconst (v := 2) cx dL_isStep_257 (by decide) ?_
            refine xr_V1i (ν := mX8_count) cx dL_isStep_258 rfl ml_L_9 vf_X8_count g8 (Nat.le_of_ble_eq_true rfl) (q_count (j := 2) (v := a 3) hG hS rfl rfl ?_)
            refine xr_iload_10 cx dL_isStep_261 ?_
            refine xr_icmp_ne (tgt := 270) cx dL_isStep_263 (by decide) (fun cq263 => ?_) (fun cq263 => ?_)
            · exact absurd (rfl) cq263
            · refine xr_iconst (v := 1) cx dL_isStep_266 (by decide) ?_
              refine xr_goto (tgt := 271) cx dL_isStep_267 (by decide) ?_
              refine xr_zret cx cz dL_isStep_271 rfl rfl ?_
              exact hQ _ ⟨_, _, hS⟩
  | some q =>
    obtain ⟨g1, g2, g3, g4⟩ := mGo_at hI.1 hg
    obtain ⟨w1, w2, -⟩ := zw hz hI hg
    obtain ⟨jx, e1, e2, e3, e4⟩ := mWrite_ix hI.1 g1 g2
    by_cases hqu : q = mUs a
    · have hqe : nI q = a 3 := by rw [ix3, hqu]
      refine xr_aload_0 cx dL_isStep_205 ?_
      refine xr_S1i (ν := mL_missed) cx dL_isStep_206 rfl ml_L_24 sf_L_missed (Nat.le_of_ble_eq_true rfl) (m_L_missed hG hS ?_)
      refine xr_istore_9 cx dL_isStep_209 ?_
      refine xr_aload_0 cx dL_isStep_211 ?_
      refine xr_iconst (v := 2) cx dL_isStep_212 (by decide) ?_
      refine xr_V1i (ν := mX8_count) cx dL_isStep_213 rfl ml_L_9 vf_X8_count g8 (Nat.le_of_ble_eq_true rfl) (q_count (j := 2) (v := a 3) hG hS rfl rfl ?_)
      refine xr_istore_10 cx dL_isStep_216 ?_
      refine xr_aload_0 cx dL_isStep_218 ?_
      refine xr_V0i (ν := mX8_write) cx dL_isStep_219 rfl ml_L_28 vf_X8_write g8 (Nat.le_of_ble_eq_true rfl) (q_write_s hG hS (oWrite_some hg) (zInv_write hz hI hg) (fun τ hT => ?_))
      refine xr_istore_11 cx dL_isStep_222 ?_
      refine xr_iload_11 cx dL_isStep_224 ?_
      refine xr_if_ge (tgt := 272) cx dL_isStep_226 (by decide) (fun cq226 => ?_) (fun cq226 => ?_)
      · refine xr_aload_0 cx dL_isStep_272 ?_
        refine xr_iload_6 cx dL_isStep_273 ?_
        refine xr_iconst (v := 1) cx dL_isStep_275 (by decide) ?_
        refine xr_V2i (ν := mX8_step) cx dL_isStep_276 rfl ml_L_32 vf_X8_step g8 (Nat.le_of_ble_eq_true rfl) (q_step (s := mWr a) (j := 1) (v := mWrite a q (139 + mWr a)) hG hT (by rw [e1]; exact g2) ix2 rfl rfl ?_)
        refine xr_S1i (ν := mL_bits) cx dL_isStep_279 rfl ml_L_35 sf_L_bits (Nat.le_of_ble_eq_true rfl) (m_L_bits ?_)
        refine xr_istore_12 cx dL_isStep_282 ?_
        refine xr_aload_0 cx dL_isStep_284 ?_
        refine xr_iload_6 cx dL_isStep_285 ?_
        refine xr_iconst (v := 3) cx dL_isStep_287 (by decide) ?_
        refine xr_V2i (ν := mX8_step) cx dL_isStep_288 rfl ml_L_32 vf_X8_step g8 (Nat.le_of_ble_eq_true rfl) (q_step (s := mWr a) (j := 3) (v := nI q) hG hT (by rw [e1]; exact g2) ix2 rfl (by rw [w_pan hI hg]; rfl) ?_)
        refine xr_iload_11 cx dL_isStep_291 ?_
        refine xr_icmp_ne (tgt := 410) cx dL_isStep_293 (by decide) (fun cq293 => ?_) (fun cq293 => ?_)
        · exact absurd (rfl) cq293
        · refine xr_aload_0 cx dL_isStep_296 ?_
          refine xr_iconst (v := 2) cx dL_isStep_297 (by decide) ?_
          refine xr_V1i (ν := mX8_count) cx dL_isStep_298 rfl ml_L_9 vf_X8_count g8 (Nat.le_of_ble_eq_true rfl) (q_count (j := 2) (v := mWrite a q 3) hG hT rfl rfl ?_)
          refine xr_iload_11 cx dL_isStep_301 ?_
          refine xr_icmp_ne (tgt := 410) cx dL_isStep_303 (by decide) (fun cq303 => ?_) (fun cq303 => ?_)
          · exact absurd (mWrite_3 g1 ix3) cq303
          · refine xr_aload_0 cx dL_isStep_306 ?_
            refine xr_iload_11 cx dL_isStep_307 ?_
            refine xr_iconst (v := 2) cx dL_isStep_309 (by decide) ?_
            refine xr_V2i (ν := mX8_panel) cx dL_isStep_310 rfl ml_L_38 vf_X8_panel g8 (Nat.le_of_ble_eq_true rfl) (q_panel (j := 2) (v := if mFront (mWrite a q) q = true then 1 else 0) hG hT g1 rfl rfl rfl ?_)
            refine xr_iconst (v := 1) cx dL_isStep_313 (by decide) ?_
            refine xr_icmp_ne (tgt := 410) cx dL_isStep_314 (by decide) (fun cq314 => ?_) (fun cq314 => ?_)
            · exact absurd (if_pos (mFront_at w2)) cq314
            · refine xr_aload_0 cx dL_isStep_317 ?_
              refine xr_iconst (v := 1) cx dL_isStep_318 (by decide) ?_
              refine xr_V1i (ν := mX8_count) cx dL_isStep_319 rfl ml_L_9 vf_X8_count g8 (Nat.le_of_ble_eq_true rfl) (q_count (j := 1) (v := mWrite a q 2) hG hT rfl rfl ?_)
              refine xr_iload_6 cx dL_isStep_322 ?_
              refine xr_iconst (v := 1) cx dL_isStep_324 (by decide) ?_
              refine xr_iadd cx dL_isStep_325 ?_
              refine xr_icmp_ne (tgt := 410) cx dL_isStep_326 (by decide) (fun cq326 => ?_) (fun cq326 => ?_)
              · exact absurd (mWrite_2 g1) cq326
              · refine xr_aload_0 cx dL_isStep_329 ?_
                refine xr_iconst (v := 4) cx dL_isStep_330 (by decide) ?_
                refine xr_V1i (ν := mX8_count) cx dL_isStep_331 rfl ml_L_9 vf_X8_count g8 (Nat.le_of_ble_eq_true rfl) (q_count (j := 4) (v := mWrite a q 9) hG hT rfl rfl ?_)
                refine xr_iload_8 cx dL_isStep_334 ?_
                refine xr_iload_11 cx dL_isStep_336 ?_
                refine xr_iload_10 cx dL_isStep_338 ?_
                refine xr_icmp_ne (tgt := 347) cx dL_isStep_340 (by decide) (fun cq340 => ?_) (fun cq340 => ?_)
                · exact absurd (hqe) cq340
                · refine xr_iconst (v := 0) cx dL_isStep_343 (by decide) ?_
                  refine xr_goto (tgt := 348) cx dL_isStep_344 (by decide) ?_
                  refine xr_iadd cx dL_isStep_348 ?_
                  refine xr_icmp_ne (tgt := 410) cx dL_isStep_349 (by decide) (fun cq349 => ?_) (fun cq349 => ?_)
                  · exact absurd (by rw [mWrite_9 g1, if_neg (fun z => z hqu), Int32.add_zero]) cq349
                  · refine xr_aload_0 cx dL_isStep_352 ?_
                    refine xr_S1i (ν := mL_missed) cx dL_isStep_353 rfl ml_L_24 sf_L_missed (Nat.le_of_ble_eq_true rfl) (m_L_missed hG hT ?_)
                    refine xr_iload_9 cx dL_isStep_356 ?_
                    refine xr_isub cx dL_isStep_358 ?_
                    refine xr_aload_0 cx dL_isStep_359 ?_
                    refine xr_iconst (v := 3) cx dL_isStep_360 (by decide) ?_
                    refine xr_V1i (ν := mX8_count) cx dL_isStep_361 rfl ml_L_9 vf_X8_count g8 (Nat.le_of_ble_eq_true rfl) (q_count (j := 3) (v := mWrite a q 8) hG hT rfl rfl ?_)
                    refine xr_iadd cx dL_isStep_364 ?_
                    refine xr_iload_7 cx dL_isStep_365 ?_
                    refine xr_isub cx dL_isStep_367 ?_
                    refine xr_iload_12 cx dL_isStep_368 ?_
                    refine xr_iconst (v := 1) cx dL_isStep_370 (by decide) ?_
                    refine xr_iadd cx dL_isStep_371 ?_
                    refine xr_icmp_gt (tgt := 410) cx dL_isStep_372 (by decide) (fun cq372 => ?_) (fun cq372 => ?_)
                    · exact absurd cq372 (zw_num hz hI hg)
                    · refine xr_iload_11 cx dL_isStep_375 ?_
                      refine xr_iload_10 cx dL_isStep_377 ?_
                      refine xr_icmp_eq (tgt := 406) cx dL_isStep_379 (by decide) (fun cq379 => ?_) (fun cq379 => ?_)
                      · refine xr_iconst (v := 1) cx dL_isStep_406 (by decide) ?_
                        refine xr_goto (tgt := 411) cx dL_isStep_407 (by decide) ?_
                        refine xr_zret cx cz dL_isStep_411 rfl rfl ?_
                        exact hQ _ ⟨_, _, hT⟩
                      · exact absurd (hqe) cq379
      · exact absurd (nI_pos' (by omega)) cq226
    · have hqe : ¬ nI q = a 3 := fun z => hqu (nI_inj (by omega) (by omega) (z.trans ix3))
      refine xr_aload_0 cx dL_isStep_205 ?_
      refine xr_S1i (ν := mL_missed) cx dL_isStep_206 rfl ml_L_24 sf_L_missed (Nat.le_of_ble_eq_true rfl) (m_L_missed hG hS ?_)
      refine xr_istore_9 cx dL_isStep_209 ?_
      refine xr_aload_0 cx dL_isStep_211 ?_
      refine xr_iconst (v := 2) cx dL_isStep_212 (by decide) ?_
      refine xr_V1i (ν := mX8_count) cx dL_isStep_213 rfl ml_L_9 vf_X8_count g8 (Nat.le_of_ble_eq_true rfl) (q_count (j := 2) (v := a 3) hG hS rfl rfl ?_)
      refine xr_istore_10 cx dL_isStep_216 ?_
      refine xr_aload_0 cx dL_isStep_218 ?_
      refine xr_V0i (ν := mX8_write) cx dL_isStep_219 rfl ml_L_28 vf_X8_write g8 (Nat.le_of_ble_eq_true rfl) (q_write_s hG hS (oWrite_some hg) (zInv_write hz hI hg) (fun τ hT => ?_))
      refine xr_istore_11 cx dL_isStep_222 ?_
      refine xr_iload_11 cx dL_isStep_224 ?_
      refine xr_if_ge (tgt := 272) cx dL_isStep_226 (by decide) (fun cq226 => ?_) (fun cq226 => ?_)
      · refine xr_aload_0 cx dL_isStep_272 ?_
        refine xr_iload_6 cx dL_isStep_273 ?_
        refine xr_iconst (v := 1) cx dL_isStep_275 (by decide) ?_
        refine xr_V2i (ν := mX8_step) cx dL_isStep_276 rfl ml_L_32 vf_X8_step g8 (Nat.le_of_ble_eq_true rfl) (q_step (s := mWr a) (j := 1) (v := mWrite a q (139 + mWr a)) hG hT (by rw [e1]; exact g2) ix2 rfl rfl ?_)
        refine xr_S1i (ν := mL_bits) cx dL_isStep_279 rfl ml_L_35 sf_L_bits (Nat.le_of_ble_eq_true rfl) (m_L_bits ?_)
        refine xr_istore_12 cx dL_isStep_282 ?_
        refine xr_aload_0 cx dL_isStep_284 ?_
        refine xr_iload_6 cx dL_isStep_285 ?_
        refine xr_iconst (v := 3) cx dL_isStep_287 (by decide) ?_
        refine xr_V2i (ν := mX8_step) cx dL_isStep_288 rfl ml_L_32 vf_X8_step g8 (Nat.le_of_ble_eq_true rfl) (q_step (s := mWr a) (j := 3) (v := nI q) hG hT (by rw [e1]; exact g2) ix2 rfl (by rw [w_pan hI hg]; rfl) ?_)
        refine xr_iload_11 cx dL_isStep_291 ?_
        refine xr_icmp_ne (tgt := 410) cx dL_isStep_293 (by decide) (fun cq293 => ?_) (fun cq293 => ?_)
        · exact absurd (rfl) cq293
        · refine xr_aload_0 cx dL_isStep_296 ?_
          refine xr_iconst (v := 2) cx dL_isStep_297 (by decide) ?_
          refine xr_V1i (ν := mX8_count) cx dL_isStep_298 rfl ml_L_9 vf_X8_count g8 (Nat.le_of_ble_eq_true rfl) (q_count (j := 2) (v := mWrite a q 3) hG hT rfl rfl ?_)
          refine xr_iload_11 cx dL_isStep_301 ?_
          refine xr_icmp_ne (tgt := 410) cx dL_isStep_303 (by decide) (fun cq303 => ?_) (fun cq303 => ?_)
          · exact absurd (mWrite_3 g1 ix3) cq303
          · refine xr_aload_0 cx dL_isStep_306 ?_
            refine xr_iload_11 cx dL_isStep_307 ?_
            refine xr_iconst (v := 2) cx dL_isStep_309 (by decide) ?_
            refine xr_V2i (ν := mX8_panel) cx dL_isStep_310 rfl ml_L_38 vf_X8_panel g8 (Nat.le_of_ble_eq_true rfl) (q_panel (j := 2) (v := if mFront (mWrite a q) q = true then 1 else 0) hG hT g1 rfl rfl rfl ?_)
            refine xr_iconst (v := 1) cx dL_isStep_313 (by decide) ?_
            refine xr_icmp_ne (tgt := 410) cx dL_isStep_314 (by decide) (fun cq314 => ?_) (fun cq314 => ?_)
            · exact absurd (if_pos (mFront_at w2)) cq314
            · refine xr_aload_0 cx dL_isStep_317 ?_
              refine xr_iconst (v := 1) cx dL_isStep_318 (by decide) ?_
              refine xr_V1i (ν := mX8_count) cx dL_isStep_319 rfl ml_L_9 vf_X8_count g8 (Nat.le_of_ble_eq_true rfl) (q_count (j := 1) (v := mWrite a q 2) hG hT rfl rfl ?_)
              refine xr_iload_6 cx dL_isStep_322 ?_
              refine xr_iconst (v := 1) cx dL_isStep_324 (by decide) ?_
              refine xr_iadd cx dL_isStep_325 ?_
              refine xr_icmp_ne (tgt := 410) cx dL_isStep_326 (by decide) (fun cq326 => ?_) (fun cq326 => ?_)
              · exact absurd (mWrite_2 g1) cq326
              · refine xr_aload_0 cx dL_isStep_329 ?_
                refine xr_iconst (v := 4) cx dL_isStep_330 (by decide) ?_
                refine xr_V1i (ν := mX8_count) cx dL_isStep_331 rfl ml_L_9 vf_X8_count g8 (Nat.le_of_ble_eq_true rfl) (q_count (j := 4) (v := mWrite a q 9) hG hT rfl rfl ?_)
                refine xr_iload_8 cx dL_isStep_334 ?_
                refine xr_iload_11 cx dL_isStep_336 ?_
                refine xr_iload_10 cx dL_isStep_338 ?_
                refine xr_icmp_ne (tgt := 347) cx dL_isStep_340 (by decide) (fun cq340 => ?_) (fun cq340 => ?_)
                · refine xr_iconst (v := 1) cx dL_isStep_347 (by decide) ?_
                  refine xr_iadd cx dL_isStep_348 ?_
                  refine xr_icmp_ne (tgt := 410) cx dL_isStep_349 (by decide) (fun cq349 => ?_) (fun cq349 => ?_)
                  · exact absurd (by rw [mWrite_9 g1, if_pos hqu]) cq349
                  · refine xr_aload_0 cx dL_isStep_352 ?_
                    refine xr_S1i (ν := mL_missed) cx dL_isStep_353 rfl ml_L_24 sf_L_missed (Nat.le_of_ble_eq_true rfl) (m_L_missed hG hT ?_)
                    refine xr_iload_9 cx dL_isStep_356 ?_
                    refine xr_isub cx dL_isStep_358 ?_
                    refine xr_aload_0 cx dL_isStep_359 ?_
                    refine xr_iconst (v := 3) cx dL_isStep_360 (by decide) ?_
                    refine xr_V1i (ν := mX8_count) cx dL_isStep_361 rfl ml_L_9 vf_X8_count g8 (Nat.le_of_ble_eq_true rfl) (q_count (j := 3) (v := mWrite a q 8) hG hT rfl rfl ?_)
                    refine xr_iadd cx dL_isStep_364 ?_
                    refine xr_iload_7 cx dL_isStep_365 ?_
                    refine xr_isub cx dL_isStep_367 ?_
                    refine xr_iload_12 cx dL_isStep_368 ?_
                    refine xr_iconst (v := 1) cx dL_isStep_370 (by decide) ?_
                    refine xr_iadd cx dL_isStep_371 ?_
                    refine xr_icmp_gt (tgt := 410) cx dL_isStep_372 (by decide) (fun cq372 => ?_) (fun cq372 => ?_)
                    · exact absurd cq372 (zw_num hz hI hg)
                    · refine xr_iload_11 cx dL_isStep_375 ?_
                      refine xr_iload_10 cx dL_isStep_377 ?_
                      refine xr_icmp_eq (tgt := 406) cx dL_isStep_379 (by decide) (fun cq379 => ?_) (fun cq379 => ?_)
                      · exact absurd cq379 (hqe)
                      · refine xr_aload_0 cx dL_isStep_382 ?_
                        refine xr_iload_11 cx dL_isStep_383 ?_
                        refine xr_iconst (v := 0) cx dL_isStep_385 (by decide) ?_
                        refine xr_V2i (ν := mX8_panel) cx dL_isStep_386 rfl ml_L_38 vf_X8_panel g8 (Nat.le_of_ble_eq_true rfl) (q_panel (j := 0) (v := mWrite a q (17 + q)) hG hT g1 rfl rfl rfl ?_)
                        refine xr_iconst (v := 1) cx dL_isStep_389 (by decide) ?_
                        refine xr_iload_6 cx dL_isStep_390 ?_
                        refine xr_ishl cx dL_isStep_392 ?_
                        refine xr_icmp_ne (tgt := 410) cx dL_isStep_393 (by decide) (fun cq393 => ?_) (fun cq393 => ?_)
                        · exact absurd (w_alone hI hg hqu) cq393
                        · refine xr_aload_0 cx dL_isStep_396 ?_
                          refine xr_iload_11 cx dL_isStep_397 ?_
                          refine xr_iconst (v := 3) cx dL_isStep_399 (by decide) ?_
                          refine xr_V2i (ν := mX8_panel) cx dL_isStep_400 rfl ml_L_38 vf_X8_panel g8 (Nat.le_of_ble_eq_true rfl) (q_panel (j := 3) (v := if bt (mWrite a q 7) q = true then 1 else 0) hG hT g1 rfl rfl rfl ?_)
                          refine xr_if_ne (tgt := 410) cx dL_isStep_403 (by decide) (fun cq403 => ?_) (fun cq403 => ?_)
                          · exact absurd (if_neg (w_pin hI hg hqu)) cq403
                          · refine xr_iconst (v := 1) cx dL_isStep_406 (by decide) ?_
                            refine xr_goto (tgt := 411) cx dL_isStep_407 (by decide) ?_
                            refine xr_zret cx cz dL_isStep_411 rfl rfl ?_
                            exact hQ _ ⟨_, _, hT⟩
                · exact absurd cq340 (hqe)
      · exact absurd (nI_pos' (by omega)) cq226
theorem m_L_isStep {l : Launch} {E : XEnv} {d : Nat} {σ : XSt} {a : Nat → Int32} {hl : List (Nat → Int32)} {Q : Int32 → XSt → Prop} {x y : Int32} (hG : xGl E) (hS : zLS σ a hl) (h : ∀ τ, zLI τ → Q 1 τ) : XMi l E (d + 7) mL_isStep [.ref (xad E 0), .int x, .int y] σ Q := by
  obtain ⟨g8, g72, g73, g158, g159, g160, g161, g162, g163, L9, L30, L51, L74, L95, L116, L137⟩ := id hG
  refine xr_entry (lv := [some (.ref (xad E 0)), some (.int x), some (.int y), none, none, none, none, none, none, none, none, none, none]) (by decide +kernel) (by simp [Value.category]) (Nat.le_of_ble_eq_true rfl) rfl (fun w hw cx cz => ?_)
  subst hw
  refine xr_iload_1 cx dL_isStep_0 ?_
  refine xr_iconst (v := 4) cx dL_isStep_1 (by decide) ?_
  refine xr_ishr cx dL_isStep_2 ?_
  refine xr_istore_3 cx dL_isStep_3 ?_
  refine xr_iload_3 cx dL_isStep_4 ?_
  refine xr_bipush (v := 6) cx dL_isStep_5 (by decide) ?_
  refine xr_S2i (ν := mL_up) cx dL_isStep_7 rfl ml_L_15 sf_L_up (Nat.le_of_ble_eq_true rfl) (m_L_up 6 rfl (by decide) (by decide) (fun p hp => ?_))
  refine xr_istore_4 cx dL_isStep_10 ?_
  refine xr_aload_0 cx dL_isStep_12 ?_
  refine xr_iconst (v := 0) cx dL_isStep_13 (by decide) ?_
  refine xr_V1i (ν := mX8_count) cx dL_isStep_14 rfl ml_L_9 vf_X8_count g8 (Nat.le_of_ble_eq_true rfl) (q_count (j := 0) (v := a 1) hG hS rfl rfl ?_)
  refine xr_istore_5 cx dL_isStep_17 ?_
  refine xr_aload_0 cx dL_isStep_19 ?_
  refine xr_iconst (v := 1) cx dL_isStep_20 (by decide) ?_
  refine xr_V1i (ν := mX8_count) cx dL_isStep_21 rfl ml_L_9 vf_X8_count g8 (Nat.le_of_ble_eq_true rfl) (q_count (j := 1) (v := a 2) hG hS rfl rfl ?_)
  refine xr_istore_6 cx dL_isStep_24 ?_
  refine xr_aload_0 cx dL_isStep_26 ?_
  refine xr_iconst (v := 3) cx dL_isStep_27 (by decide) ?_
  refine xr_V1i (ν := mX8_count) cx dL_isStep_28 rfl ml_L_9 vf_X8_count g8 (Nat.le_of_ble_eq_true rfl) (q_count (j := 3) (v := a 8) hG hS rfl rfl ?_)
  refine xr_istore_7 cx dL_isStep_31 ?_
  refine xr_aload_0 cx dL_isStep_33 ?_
  refine xr_iconst (v := 4) cx dL_isStep_34 (by decide) ?_
  refine xr_V1i (ν := mX8_count) cx dL_isStep_35 rfl ml_L_9 vf_X8_count g8 (Nat.le_of_ble_eq_true rfl) (q_count (j := 4) (v := a 9) hG hS rfl rfl ?_)
  refine xr_istore_8 cx dL_isStep_38 ?_
  refine xr_iload_1 cx dL_isStep_40 ?_
  refine xr_bipush (v := 17) cx dL_isStep_41 (by decide) ?_
  refine xr_S2i (ν := mL_up) cx dL_isStep_43 rfl ml_L_15 sf_L_up (Nat.le_of_ble_eq_true rfl) (m_L_up 17 rfl (by decide) (by decide) (fun j hj => ?_))
  refine xr_tsw (n := 16) (tgtd := 909) cx dL_isStep_46 (by decide) (by decide) (by decide) (xn_16 (fun cq46 => ⟨78, 124, by decide, by decide, ?_⟩) (fun cq46 => ⟨78, 124, by decide, by decide, ?_⟩) (fun cq46 => ⟨78, 124, by decide, by decide, ?_⟩) (fun cq46 => ⟨78, 124, by decide, by decide, ?_⟩) (fun cq46 => ⟨159, 205, by decide, by decide, ?_⟩) (fun cq46 => ⟨159, 205, by decide, by decide, ?_⟩) (fun cq46 => ⟨159, 205, by decide, by decide, ?_⟩) (fun cq46 => ⟨159, 205, by decide, by decide, ?_⟩) (fun cq46 => ⟨159, 205, by decide, by decide, ?_⟩) (fun cq46 => ⟨366, 412, by decide, by decide, ?_⟩) (fun cq46 => ⟨395, 441, by decide, by decide, ?_⟩) (fun cq46 => ⟨436, 482, by decide, by decide, ?_⟩) (fun cq46 => ⟨559, 605, by decide, by decide, ?_⟩) (fun cq46 => ⟨668, 714, by decide, by decide, ?_⟩) (fun cq46 => ⟨668, 714, by decide, by decide, ?_⟩) (fun cq46 => ⟨840, 886, by decide, by decide, ?_⟩)) (fun cq46 => ?_)
  · exact ls_plan hG cx cz hS hp h
  · exact ls_plan hG cx cz hS hp h
  · exact ls_plan hG cx cz hS hp h
  · exact ls_plan hG cx cz hS hp h
  · exact ls_write hG cx cz hS hp h
  · exact ls_write hG cx cz hS hp h
  · exact ls_write hG cx cz hS hp h
  · exact ls_write hG cx cz hS hp h
  · exact ls_write hG cx cz hS hp h
  · exact ls_pull hG cx cz hS hp h
  · exact ls_pin hG cx cz hS hp h
  · exact ls_wipe hG cx cz hS hp h
  · exact ls_photo hG cx cz hS hp h
  · exact ls_ask hG cx cz hS hp h
  · exact ls_ask hG cx cz hS hp h
  · exact ls_room hG cx cz hS hp h
  · exact ls_undo hG cx cz hS hp h
