theorem mRun_fst : ∀ (n : Nat) (a : Nat → Int32) (x y : Int32), (mRun n a x).1 = (mRun n a y).1
  | 0, _, _, _ => rfl
  | n + 1, a, x, y => by
    cases hg : mGo a with
    | none => rw [mRun_none hg, mRun_none hg]
    | some p => rw [mRun_some hg, mRun_some hg]; exact mRun_fst n _ _ _
theorem mGo_end {a : Nat → Int32} (h : ¬ mWr a < mSt a) : mGo a = none := by
  unfold mGo
  rw [if_neg h]
theorem mGo_next {a : Nat → Int32} (hg : mGo a = none) (h : mWr a < mSt a) : mNext a = none := by
  unfold mGo at hg
  rw [if_pos h] at hg
  exact hg
def xOp (c : Nat → Int32) (op : Int32) : Prop := ∀ s, s < 32 → bt op s = true → s < mWr c ∧ ∀ q, q < 6 → bt (c (17 + q)) s = false
theorem xOp_step {c : Nat → Int32} {p : Nat} {op oq : Int32} (hI : xInv c) (hp : p < 6) (hw : mWr c < mSt c) (h : xOp c op) (ho : ∀ s, s < 32 → bt oq s = true → bt op s = true ∨ (p ≠ mUs c ∧ bt (c (17 + p)) s = true)) : xOp (mWrite c p) oq := by
  obtain ⟨hx, hO, hN, hD, hW, hE, hA⟩ := id hI
  obtain ⟨ix1, ix2, ix3, ix4, iy1, iy2, iy3, iy4⟩ := id hx
  have hwr := (mWrite_ix hx hp hw).2.2.1
  intro s hs hb
  have hx1 : s < mWr c → bt (xbit (mWr c)) s = false := fun q => by
    unfold xbit
    rw [b_bit (by omega) hs]
    exact decide_eq_false (by omega)
  rcases ho s hs hb with h1 | ⟨h1, h2⟩
  · obtain ⟨u1, u2⟩ := h s hs h1
    refine ⟨by omega, fun q hq => ?_⟩
    rw [mWrite_on hp hq]
    by_cases e : q = p
    · rw [if_pos e, b_or, hx1 u1, Bool.or_false]
      by_cases e2 : p ≠ mUs c
      · rw [if_pos e2]; exact b_0 s
      · rw [if_neg e2]; exact u2 p hp
    · rw [if_neg e]; exact u2 q hq
  · have u1 : s < mWr c := by
      rcases Nat.lt_or_ge s (mWr c) with q | q
      · exact q
      · rw [hO p hp s q hs] at h2; cases h2
    refine ⟨by omega, fun q hq => ?_⟩
    rw [mWrite_on hp hq]
    by_cases e : q = p
    · rw [if_pos e, if_pos h1, b_or, hx1 u1, Bool.or_false]; exact b_0 s
    · rw [if_neg e]; exact hD p q hp hq (fun z => e z.symm) s hs h2
theorem xOp_and {c : Nat → Int32} {p : Nat} {op ph : Int32} (hp : p < 6) (h : xOp c op) : c (17 + p) &&& ((ph ||| op) ^^^ (-1)) = c (17 + p) &&& (ph ^^^ (-1)) := by
  refine b_ext (fun i hi => ?_)
  rw [b_and, b_and, b_not _ hi, b_not _ hi, b_or]
  cases h1 : bt op i with
  | false => rw [Bool.or_false]
  | true => rw [(h i hi h1).2 p hp]; rfl
theorem lp_X9_wouldBe {E : XEnv} {d : Nat} {σ : XSt} {w : XO} {y at_ v : Option Value} (hG : xGl E) (cx : CX (d + 4) w E mX9_wouldBe) : ∀ n (c : Nat → Int32), xInv c → mSt c - mWr c ≤ n → XG w E 84 [some (.ref (xad E 0)), y, at_, some (.int 0), v] [] (su σ 1 (mRun n c 0).1) → XG w E 72 [some (.ref (xad E 0)), y, at_, some (.int 1), v] [] (su σ 1 c) := by
  have g0 := hG.1
  have g1 := hG.2.1
  have g2 := hG.2.2.1
  have g3 := hG.2.2.2.1
  have g4 := hG.2.2.2.2.1
  have g5 := hG.2.2.2.2.2.1
  have g6 := hG.2.2.2.2.2.2.1
  have g7 := hG.2.2.2.2.2.2.2.1
  intro n
  induction n with
  | zero =>
    intro c hI hn h
    have hg : mGo c = none := mGo_end (by omega)
    replace h : XG w E 84 [some (.ref (xad E 0)), y, at_, some (.int 0), v] [] (su σ 1 c) := h
    refine xr_iload_3 cx dX9_wouldBe_72 ?_
    refine xr_if_eq (tgt := 84) cx dX9_wouldBe_73 (by decide) (fun cq73 => ?_) (fun cq73 => ?_)
    · exact absurd cq73 (by decide)
    · refine xr_aload_0 cx dX9_wouldBe_76 ?_
      refine xr_V0i (ν := mX9_writes) cx dX9_wouldBe_77 rfl ml_X9_89 vf_X9_writes g0 (Nat.le_of_ble_eq_true rfl) (m_X9_writes_n hG hI.1 hg ?_)
      refine xr_istore_3 cx dX9_wouldBe_80 ?_
      refine xr_goto (tgt := 72) cx dX9_wouldBe_81 (by decide) ?_
      refine xr_iload_3 cx dX9_wouldBe_72 ?_
      refine xr_if_eq (tgt := 84) cx dX9_wouldBe_73 (by decide) (fun cq73 => ?_) (fun cq73 => ?_)
      · exact h
      · exact absurd rfl cq73
  | succ n ih =>
    intro c hI hn h
    obtain ⟨hx, hO, hN, hD, hW, hE, hA⟩ := id hI
    obtain ⟨ix1, ix2, ix3, ix4, iy1, iy2, iy3, iy4⟩ := id hx
    cases hg : mGo c with
    | none =>
      rw [mRun_none hg] at h
      refine xr_iload_3 cx dX9_wouldBe_72 ?_
      refine xr_if_eq (tgt := 84) cx dX9_wouldBe_73 (by decide) (fun cq73 => ?_) (fun cq73 => ?_)
      · exact absurd cq73 (by decide)
      · refine xr_aload_0 cx dX9_wouldBe_76 ?_
        refine xr_V0i (ν := mX9_writes) cx dX9_wouldBe_77 rfl ml_X9_89 vf_X9_writes g0 (Nat.le_of_ble_eq_true rfl) (m_X9_writes_n hG hI.1 hg ?_)
        refine xr_istore_3 cx dX9_wouldBe_80 ?_
        refine xr_goto (tgt := 72) cx dX9_wouldBe_81 (by decide) ?_
        refine xr_iload_3 cx dX9_wouldBe_72 ?_
        refine xr_if_eq (tgt := 84) cx dX9_wouldBe_73 (by decide) (fun cq73 => ?_) (fun cq73 => ?_)
        · exact h
        · exact absurd rfl cq73
    | some p =>
      rw [mRun_some hg, mRun_fst n _ _ 0] at h
      refine xr_iload_3 cx dX9_wouldBe_72 ?_
      refine xr_if_eq (tgt := 84) cx dX9_wouldBe_73 (by decide) (fun cq73 => ?_) (fun cq73 => ?_)
      · exact absurd cq73 (by decide)
      · refine xr_aload_0 cx dX9_wouldBe_76 ?_
        refine xr_V0i (ν := mX9_writes) cx dX9_wouldBe_77 rfl ml_X9_89 vf_X9_writes g0 (Nat.le_of_ble_eq_true rfl) (m_X9_writes_s hG hI.1 hg ?_)
        refine xr_istore_3 cx dX9_wouldBe_80 ?_
        refine xr_goto (tgt := 72) cx dX9_wouldBe_81 (by decide) ?_
        exact ih _ (mWrite_inv hI (mNext_lt (mGo_some hg).2 iy3) (mGo_some hg).1) (by have := (mWrite_ix hx (mNext_lt (mGo_some hg).2 iy3) (mGo_some hg).1); have := (mGo_some hg).1; omega) h
theorem m_X9_wouldBe {l : Launch} {E : XEnv} {d : Nat} {σ : XSt} {a : Nat → Int32} {Q : Int32 → XSt → Prop} (hG : xGl E) {y : Int32} {hl : List (Nat → Int32)} {sn : Option (Nat → Int32)} {t : Nat → Int32} {L : Nat} (hM : MRel σ a hl sn t L) (hI : xInv a)  (h : ∀ τ, MRel τ a hl sn t L → (∀ k, 8 ≤ k → τ k = σ k) → Q (oWould a y) τ) : XMi l E (d + 4) mX9_wouldBe [.ref (xad E 0), .int y] σ Q := by
  have g0 := hG.1
  have g1 := hG.2.1
  have g2 := hG.2.2.1
  have g3 := hG.2.2.2.1
  have g4 := hG.2.2.2.2.1
  have g5 := hG.2.2.2.2.2.1
  have g6 := hG.2.2.2.2.2.2.1
  have g7 := hG.2.2.2.2.2.2.2.1
  have hS : su σ 1 a = σ := by rw [← hM.1]; exact su_id σ 1
  obtain ⟨hx, hO, hN, hD, hW, hE, hA⟩ := id hI
  obtain ⟨ix1, ix2, ix3, ix4, iy1, iy2, iy3, iy4⟩ := id hx
  rw [← hS]
  refine xr_entry (lv := [some (.ref (xad E 0)), some (.int y), none, none, none]) (by decide +kernel) (by simp [Value.category]) (Nat.le_of_ble_eq_true rfl) rfl (fun w hw cx cz => ?_)
  subst hw
  refine xr_iload_1 cx dX9_wouldBe_0 ?_
  refine xr_i2l cx dX9_wouldBe_1 ?_
  refine xr_lconst (v := 0) cx dX9_wouldBe_2 (by decide) ?_
  refine xr_ldc2 cx dX9_wouldBe_3 kc_X9_35 ?_
  refine xr_S3i (ν := mX9_in) cx dX9_wouldBe_6 rfl ml_X9_37 sf_X9_in (Nat.le_of_ble_eq_true rfl) (m_X9_in ?_)
  refine xr_if_ne (tgt := 15) cx dX9_wouldBe_9 (by decide) (fun cq9 => ?_) (fun cq9 => ?_)
  · have hb : ¬ (y.toInt64 < 0 ∨ (5 : Int64) < y.toInt64) := fun q => by rw [if_pos q] at cq9; exact cq9 rfl
    have hb2 : ¬ (y < 0 ∨ 5 < y) := fun q => hb ((x64_in (a := 0) (b := 5)).mpr q)
    obtain ⟨u, hu, rfl⟩ := nI_of (fun q => hb2 (Or.inl q))
    have hu5 : u ≤ 5 := by
      rcases Nat.lt_or_ge 5 u with q | q
      · exact absurd (Or.inr (show nI 5 < nI u from nI_lt q hu)) hb2
      · exact q
    generalize hyu : nI u = y at *
    refine xr_aload_0 cx dX9_wouldBe_15 ?_
    refine xr_V0v (ν := mX9_remember) cx dX9_wouldBe_16 rfl ml_X9_79 vf_X9_remember g0 (Nat.le_of_ble_eq_true rfl) (m_X9_remember hG ?_)
    rw [su_same, su_comm σ a a (by decide)]
    refine xr_iload_1 cx dX9_wouldBe_19 ?_
    refine xr_if_ne (tgt := 28) cx dX9_wouldBe_20 (by decide) (fun cq20 => ?_) (fun cq20 => ?_)
    · refine xr_iload_1 cx dX9_wouldBe_28 ?_
      refine xr_iconst (v := 1) cx dX9_wouldBe_29 (by decide) ?_
      refine xr_icmp_ne (tgt := 38) cx dX9_wouldBe_30 (by decide) (fun cq30 => ?_) (fun cq30 => ?_)
      · refine xr_iload_1 cx dX9_wouldBe_38 ?_
        refine xr_iconst (v := 2) cx dX9_wouldBe_39 (by decide) ?_
        refine xr_icmp_ne (tgt := 48) cx dX9_wouldBe_40 (by decide) (fun cq40 => ?_) (fun cq40 => ?_)
        · refine xr_iload_1 cx dX9_wouldBe_48 ?_
          refine xr_iconst (v := 3) cx dX9_wouldBe_49 (by decide) ?_
          refine xr_icmp_ne (tgt := 58) cx dX9_wouldBe_50 (by decide) (fun cq50 => ?_) (fun cq50 => ?_)
          · refine xr_iload_1 cx dX9_wouldBe_58 ?_
            refine xr_iconst (v := 4) cx dX9_wouldBe_59 (by decide) ?_
            refine xr_icmp_ne (tgt := 68) cx dX9_wouldBe_60 (by decide) (fun cq60 => ?_) (fun cq60 => ?_)
            · have h5 : u = 5 := by
                have e : ∀ j, y = nI j → u ≠ j → True := fun _ _ _ => trivial
                rcases (show u = 0 ∨ u = 1 ∨ u = 2 ∨ u = 3 ∨ u = 4 ∨ u = 5 by omega) with q | q | q | q | q | q
                · exact absurd (by rw [← hyu, q]; rfl) cq20
                · exact absurd (by rw [← hyu, q]; rfl) cq30
                · exact absurd (by rw [← hyu, q]; rfl) cq40
                · exact absurd (by rw [← hyu, q]; rfl) cq50
                · exact absurd (by rw [← hyu, q]; rfl) cq60
                · exact q
              have hy5 : y = nI 5 := by rw [← hyu, h5]
              refine xr_iconst (v := 2) cx dX9_wouldBe_68 (by decide) ?_
              refine xr_istore_2 cx dX9_wouldBe_69 ?_
              refine xr_iconst (v := 1) cx dX9_wouldBe_70 (by decide) ?_
              refine xr_istore_3 cx dX9_wouldBe_71 ?_
              refine lp_X9_wouldBe hG cx 30 a hI (by omega) ?_
              refine xr_aload_0 cx dX9_wouldBe_84 ?_
              refine xr_getR cx dX9_wouldBe_85 fl_X9_7 g0 rfl ?_
              refine xr_iload_2 cx dX9_wouldBe_88 ?_
              refine xr_ialdN (j := 2) cx dX9_wouldBe_89 g1 rfl (by decide) (by decide) ?_
              rw [su_same]
              refine xr_aload_0 cx dX9_wouldBe_90 ?_
              refine xr_getR cx dX9_wouldBe_91 fl_X9_13 g0 rfl ?_
              refine xr_iload_2 cx dX9_wouldBe_94 ?_
              refine xr_ialdN (j := 2) cx dX9_wouldBe_95 g2 rfl (by decide) (by decide) ?_
              rw [su_ne _ _ (by decide), su_same]
              refine xr_isub cx dX9_wouldBe_96 ?_
              refine xr_istore_4 cx dX9_wouldBe_97 ?_
              refine xr_aload_0 cx dX9_wouldBe_99 ?_
              refine xr_V0v (ν := mX9_giveBack) cx dX9_wouldBe_100 rfl ml_X9_93 vf_X9_giveBack g0 (Nat.le_of_ble_eq_true rfl) (m_X9_giveBack hG ?_)
              rw [su_su, su_ne _ _ (by decide), su_same]
              refine xr_iload_4 cx dX9_wouldBe_103 ?_
              refine xr_iret cx cz dX9_wouldBe_105 rfl ?_
              have h2 := h (su (su σ 2 a) 1 a) (MRel_1 (MRel_2 hM)) (fun k hk => by rw [su_ne _ _ (by omega), su_ne _ _ (by omega)])
              rw [show oWould a y = _ from xsel_in (show y = nI 5 from hy5) (j := 5) rfl (by simp)] at h2
              exact h2
            · refine xr_bipush (v := 13) cx dX9_wouldBe_63 (by decide) ?_
              refine xr_goto (tgt := 69) cx dX9_wouldBe_65 (by decide) ?_
              refine xr_istore_2 cx dX9_wouldBe_69 ?_
              refine xr_iconst (v := 1) cx dX9_wouldBe_70 (by decide) ?_
              refine xr_istore_3 cx dX9_wouldBe_71 ?_
              refine lp_X9_wouldBe hG cx 30 a hI (by omega) ?_
              refine xr_aload_0 cx dX9_wouldBe_84 ?_
              refine xr_getR cx dX9_wouldBe_85 fl_X9_7 g0 rfl ?_
              refine xr_iload_2 cx dX9_wouldBe_88 ?_
              refine xr_ialdN (j := 13) cx dX9_wouldBe_89 g1 rfl (by decide) (by decide) ?_
              rw [su_same]
              refine xr_aload_0 cx dX9_wouldBe_90 ?_
              refine xr_getR cx dX9_wouldBe_91 fl_X9_13 g0 rfl ?_
              refine xr_iload_2 cx dX9_wouldBe_94 ?_
              refine xr_ialdN (j := 13) cx dX9_wouldBe_95 g2 rfl (by decide) (by decide) ?_
              rw [su_ne _ _ (by decide), su_same]
              refine xr_isub cx dX9_wouldBe_96 ?_
              refine xr_istore_4 cx dX9_wouldBe_97 ?_
              refine xr_aload_0 cx dX9_wouldBe_99 ?_
              refine xr_V0v (ν := mX9_giveBack) cx dX9_wouldBe_100 rfl ml_X9_93 vf_X9_giveBack g0 (Nat.le_of_ble_eq_true rfl) (m_X9_giveBack hG ?_)
              rw [su_su, su_ne _ _ (by decide), su_same]
              refine xr_iload_4 cx dX9_wouldBe_103 ?_
              refine xr_iret cx cz dX9_wouldBe_105 rfl ?_
              have h2 := h (su (su σ 2 a) 1 a) (MRel_1 (MRel_2 hM)) (fun k hk => by rw [su_ne _ _ (by omega), su_ne _ _ (by omega)])
              rw [show oWould a y = _ from xsel_in (show y = nI 4 from cq60) (j := 4) rfl (by simp)] at h2
              exact h2
          · refine xr_bipush (v := 12) cx dX9_wouldBe_53 (by decide) ?_
            refine xr_goto (tgt := 69) cx dX9_wouldBe_55 (by decide) ?_
            refine xr_istore_2 cx dX9_wouldBe_69 ?_
            refine xr_iconst (v := 1) cx dX9_wouldBe_70 (by decide) ?_
            refine xr_istore_3 cx dX9_wouldBe_71 ?_
            refine lp_X9_wouldBe hG cx 30 a hI (by omega) ?_
            refine xr_aload_0 cx dX9_wouldBe_84 ?_
            refine xr_getR cx dX9_wouldBe_85 fl_X9_7 g0 rfl ?_
            refine xr_iload_2 cx dX9_wouldBe_88 ?_
            refine xr_ialdN (j := 12) cx dX9_wouldBe_89 g1 rfl (by decide) (by decide) ?_
            rw [su_same]
            refine xr_aload_0 cx dX9_wouldBe_90 ?_
            refine xr_getR cx dX9_wouldBe_91 fl_X9_13 g0 rfl ?_
            refine xr_iload_2 cx dX9_wouldBe_94 ?_
            refine xr_ialdN (j := 12) cx dX9_wouldBe_95 g2 rfl (by decide) (by decide) ?_
            rw [su_ne _ _ (by decide), su_same]
            refine xr_isub cx dX9_wouldBe_96 ?_
            refine xr_istore_4 cx dX9_wouldBe_97 ?_
            refine xr_aload_0 cx dX9_wouldBe_99 ?_
            refine xr_V0v (ν := mX9_giveBack) cx dX9_wouldBe_100 rfl ml_X9_93 vf_X9_giveBack g0 (Nat.le_of_ble_eq_true rfl) (m_X9_giveBack hG ?_)
            rw [su_su, su_ne _ _ (by decide), su_same]
            refine xr_iload_4 cx dX9_wouldBe_103 ?_
            refine xr_iret cx cz dX9_wouldBe_105 rfl ?_
            have h2 := h (su (su σ 2 a) 1 a) (MRel_1 (MRel_2 hM)) (fun k hk => by rw [su_ne _ _ (by omega), su_ne _ _ (by omega)])
            rw [show oWould a y = _ from xsel_in (show y = nI 3 from cq50) (j := 3) rfl (by simp)] at h2
            exact h2
        · refine xr_bipush (v := 11) cx dX9_wouldBe_43 (by decide) ?_
          refine xr_goto (tgt := 69) cx dX9_wouldBe_45 (by decide) ?_
          refine xr_istore_2 cx dX9_wouldBe_69 ?_
          refine xr_iconst (v := 1) cx dX9_wouldBe_70 (by decide) ?_
          refine xr_istore_3 cx dX9_wouldBe_71 ?_
          refine lp_X9_wouldBe hG cx 30 a hI (by omega) ?_
          refine xr_aload_0 cx dX9_wouldBe_84 ?_
          refine xr_getR cx dX9_wouldBe_85 fl_X9_7 g0 rfl ?_
          refine xr_iload_2 cx dX9_wouldBe_88 ?_
          refine xr_ialdN (j := 11) cx dX9_wouldBe_89 g1 rfl (by decide) (by decide) ?_
          rw [su_same]
          refine xr_aload_0 cx dX9_wouldBe_90 ?_
          refine xr_getR cx dX9_wouldBe_91 fl_X9_13 g0 rfl ?_
          refine xr_iload_2 cx dX9_wouldBe_94 ?_
          refine xr_ialdN (j := 11) cx dX9_wouldBe_95 g2 rfl (by decide) (by decide) ?_
          rw [su_ne _ _ (by decide), su_same]
          refine xr_isub cx dX9_wouldBe_96 ?_
          refine xr_istore_4 cx dX9_wouldBe_97 ?_
          refine xr_aload_0 cx dX9_wouldBe_99 ?_
          refine xr_V0v (ν := mX9_giveBack) cx dX9_wouldBe_100 rfl ml_X9_93 vf_X9_giveBack g0 (Nat.le_of_ble_eq_true rfl) (m_X9_giveBack hG ?_)
          rw [su_su, su_ne _ _ (by decide), su_same]
          refine xr_iload_4 cx dX9_wouldBe_103 ?_
          refine xr_iret cx cz dX9_wouldBe_105 rfl ?_
          have h2 := h (su (su σ 2 a) 1 a) (MRel_1 (MRel_2 hM)) (fun k hk => by rw [su_ne _ _ (by omega), su_ne _ _ (by omega)])
          rw [show oWould a y = _ from xsel_in (show y = nI 2 from cq40) (j := 2) rfl (by simp)] at h2
          exact h2
      · refine xr_bipush (v := 9) cx dX9_wouldBe_33 (by decide) ?_
        refine xr_goto (tgt := 69) cx dX9_wouldBe_35 (by decide) ?_
        refine xr_istore_2 cx dX9_wouldBe_69 ?_
        refine xr_iconst (v := 1) cx dX9_wouldBe_70 (by decide) ?_
        refine xr_istore_3 cx dX9_wouldBe_71 ?_
        refine lp_X9_wouldBe hG cx 30 a hI (by omega) ?_
        refine xr_aload_0 cx dX9_wouldBe_84 ?_
        refine xr_getR cx dX9_wouldBe_85 fl_X9_7 g0 rfl ?_
        refine xr_iload_2 cx dX9_wouldBe_88 ?_
        refine xr_ialdN (j := 9) cx dX9_wouldBe_89 g1 rfl (by decide) (by decide) ?_
        rw [su_same]
        refine xr_aload_0 cx dX9_wouldBe_90 ?_
        refine xr_getR cx dX9_wouldBe_91 fl_X9_13 g0 rfl ?_
        refine xr_iload_2 cx dX9_wouldBe_94 ?_
        refine xr_ialdN (j := 9) cx dX9_wouldBe_95 g2 rfl (by decide) (by decide) ?_
        rw [su_ne _ _ (by decide), su_same]
        refine xr_isub cx dX9_wouldBe_96 ?_
        refine xr_istore_4 cx dX9_wouldBe_97 ?_
        refine xr_aload_0 cx dX9_wouldBe_99 ?_
        refine xr_V0v (ν := mX9_giveBack) cx dX9_wouldBe_100 rfl ml_X9_93 vf_X9_giveBack g0 (Nat.le_of_ble_eq_true rfl) (m_X9_giveBack hG ?_)
        rw [su_su, su_ne _ _ (by decide), su_same]
        refine xr_iload_4 cx dX9_wouldBe_103 ?_
        refine xr_iret cx cz dX9_wouldBe_105 rfl ?_
        have h2 := h (su (su σ 2 a) 1 a) (MRel_1 (MRel_2 hM)) (fun k hk => by rw [su_ne _ _ (by omega), su_ne _ _ (by omega)])
        rw [show oWould a y = _ from xsel_in (show y = nI 1 from cq30) (j := 1) rfl (by simp)] at h2
        exact h2
    · refine xr_bipush (v := 8) cx dX9_wouldBe_23 (by decide) ?_
      refine xr_goto (tgt := 69) cx dX9_wouldBe_25 (by decide) ?_
      refine xr_istore_2 cx dX9_wouldBe_69 ?_
      refine xr_iconst (v := 1) cx dX9_wouldBe_70 (by decide) ?_
      refine xr_istore_3 cx dX9_wouldBe_71 ?_
      refine lp_X9_wouldBe hG cx 30 a hI (by omega) ?_
      refine xr_aload_0 cx dX9_wouldBe_84 ?_
      refine xr_getR cx dX9_wouldBe_85 fl_X9_7 g0 rfl ?_
      refine xr_iload_2 cx dX9_wouldBe_88 ?_
      refine xr_ialdN (j := 8) cx dX9_wouldBe_89 g1 rfl (by decide) (by decide) ?_
      rw [su_same]
      refine xr_aload_0 cx dX9_wouldBe_90 ?_
      refine xr_getR cx dX9_wouldBe_91 fl_X9_13 g0 rfl ?_
      refine xr_iload_2 cx dX9_wouldBe_94 ?_
      refine xr_ialdN (j := 8) cx dX9_wouldBe_95 g2 rfl (by decide) (by decide) ?_
      rw [su_ne _ _ (by decide), su_same]
      refine xr_isub cx dX9_wouldBe_96 ?_
      refine xr_istore_4 cx dX9_wouldBe_97 ?_
      refine xr_aload_0 cx dX9_wouldBe_99 ?_
      refine xr_V0v (ν := mX9_giveBack) cx dX9_wouldBe_100 rfl ml_X9_93 vf_X9_giveBack g0 (Nat.le_of_ble_eq_true rfl) (m_X9_giveBack hG ?_)
      rw [su_su, su_ne _ _ (by decide), su_same]
      refine xr_iload_4 cx dX9_wouldBe_103 ?_
      refine xr_iret cx cz dX9_wouldBe_105 rfl ?_
      have h2 := h (su (su σ 2 a) 1 a) (MRel_1 (MRel_2 hM)) (fun k hk => by rw [su_ne _ _ (by omega), su_ne _ _ (by omega)])
      rw [show oWould a y = _ from xsel_in (show y = nI 0 from cq20) (j := 0) rfl (by simp)] at h2
      exact h2
  · have hb : y.toInt64 < 0 ∨ (5 : Int64) < y.toInt64 := by by_cases q : y.toInt64 < 0 ∨ (5 : Int64) < y.toInt64; exact q; rw [if_neg q] at cq9; exact absurd cq9 (by decide)
    have hb2 : y < 0 ∨ 5 < y := (x64_in (a := 0) (b := 5)).mp hb
    refine xr_bipush (v := -2) cx dX9_wouldBe_12 (by decide) ?_
    refine xr_iret cx cz dX9_wouldBe_14 rfl ?_
    have h2 := h (su σ 1 a) (MRel_1 hM) (fun k hk => su_ne _ _ (by omega))
    unfold oWould at h2
    rw [xsel_out (n := 6) rfl (by decide) (fun j hj e => by
      rw [e] at hb2
      rcases hb2 with z | z
      · exact nI_pos (show j < 2 ^ 31 by omega) z
      · exact Int32.not_le.mpr z (nI_le (a := j) (b := 5) (by omega) (by decide)))] at h2
    exact h2
theorem lp_X9_photosNeeded {E : XEnv} {d : Nat} {σ : XSt} {w : XO} {ph : Int32} (hG : xGl E) (cx : CX (d + 4) w E mX9_photosNeeded) : ∀ n (c : Nat → Int32) (op x on m : Int32) (v4 v5 : Option Value), xInv c → mPh c = ph → mSt c - mWr c ≤ n → xOp c op → on = ph ||| op → m = (if mWr c < mSt c then 1 else 0) → (∀ r u z v4 v5, XG w E 129 [some (.ref (xad E 0)), some (.int u), some (.int (mRun n c x).2), some (.int z), v4, v5] [] (su σ 1 r)) → XG w E 32 [some (.ref (xad E 0)), some (.int on), some (.int x), some (.int m), v4, v5] [] (su σ 1 c) := by
  have g0 := hG.1
  have g1 := hG.2.1
  have g2 := hG.2.2.1
  have g3 := hG.2.2.2.1
  have g4 := hG.2.2.2.2.1
  have g5 := hG.2.2.2.2.2.1
  have g6 := hG.2.2.2.2.2.2.1
  have g7 := hG.2.2.2.2.2.2.2.1
  intro n
  induction n with
  | zero =>
    intro c op x on m v4 v5 hI hph hn hop hon hm h
    rw [if_neg (by omega)] at hm
    subst hm
    refine xr_iload_3 cx dX9_photosNeeded_32 ?_
    refine xr_if_eq (tgt := 129) cx dX9_photosNeeded_33 (by decide) (fun cq33 => ?_) (fun cq33 => ?_)
    · exact h _ _ _ _ _
    · exact absurd rfl cq33
  | succ n ih =>
    intro c op x on m v4 v5 hI hph hn hop hon hm h
    obtain ⟨hx, hO, hN, hD, hW, hE, hA⟩ := id hI
    obtain ⟨ix1, ix2, ix3, ix4, iy1, iy2, iy3, iy4⟩ := id hx
    by_cases hlt : mWr c < mSt c
    case neg =>
      rw [if_neg hlt] at hm
      subst hm
      rw [mRun_none (mGo_end hlt)] at h
      refine xr_iload_3 cx dX9_photosNeeded_32 ?_
      refine xr_if_eq (tgt := 129) cx dX9_photosNeeded_33 (by decide) (fun cq33 => ?_) (fun cq33 => ?_)
      · exact h _ _ _ _ _
      · exact absurd rfl cq33
    rw [if_pos hlt] at hm
    subst hm
    cases hg : mGo c with
    | none =>
      rw [mRun_none hg] at h
      refine xr_iload_3 cx dX9_photosNeeded_32 ?_
      refine xr_if_eq (tgt := 129) cx dX9_photosNeeded_33 (by decide) (fun cq33 => ?_) (fun cq33 => ?_)
      · exact absurd cq33 (by decide)
      · refine xr_aload_0 cx dX9_photosNeeded_36 ?_
        refine xr_V0i (ν := mX9_panelForNext) cx dX9_photosNeeded_37 rfl ml_X9_66 vf_X9_panelForNext g0 (Nat.le_of_ble_eq_true rfl) (m_X9_panelForNext hG hx ?_)
        rw [mGo_next hg hlt]
        show XG _ _ _ _ [.int (-5)] _
        refine xr_istore_4 cx dX9_photosNeeded_40 ?_
        refine xr_iload_4 cx dX9_photosNeeded_42 ?_
        refine xr_bipush (v := -5) cx dX9_photosNeeded_44 (by decide) ?_
        refine xr_icmp_eq (tgt := 60) cx dX9_photosNeeded_46 (by decide) (fun cq46 => ?_) (fun cq46 => ?_)
        · refine xr_iconst (v := 0) cx dX9_photosNeeded_60 (by decide) ?_
          refine xr_goto (tgt := 78) cx dX9_photosNeeded_61 (by decide) ?_
          refine xr_istore_5 cx dX9_photosNeeded_78 ?_
          refine xr_iload_1 cx dX9_photosNeeded_80 ?_
          refine xr_iload_5 cx dX9_photosNeeded_81 ?_
          refine xr_ior cx dX9_photosNeeded_83 ?_
          refine xr_istore_1 cx dX9_photosNeeded_84 ?_
          refine xr_iload_2 cx dX9_photosNeeded_85 ?_
          refine xr_iload_5 cx dX9_photosNeeded_86 ?_
          refine xr_if_ne (tgt := 95) cx dX9_photosNeeded_88 (by decide) (fun cq88 => ?_) (fun cq88 => ?_)
          · exact absurd rfl cq88
          · refine xr_iconst (v := 0) cx dX9_photosNeeded_91 (by decide) ?_
            refine xr_goto (tgt := 96) cx dX9_photosNeeded_92 (by decide) ?_
            refine xr_iadd cx dX9_photosNeeded_96 ?_
            refine xr_istore_2 cx dX9_photosNeeded_97 ?_
            refine xr_aload_0 cx dX9_photosNeeded_98 ?_
            refine xr_V0i (ν := mX9_writes) cx dX9_photosNeeded_99 rfl ml_X9_89 vf_X9_writes g0 (Nat.le_of_ble_eq_true rfl) (m_X9_writes_n hG hx hg ?_)
            refine xr_if_eq (tgt := 124) cx dX9_photosNeeded_102 (by decide) (fun cq102 => ?_) (fun cq102 => ?_)
            · refine xr_iconst (v := 0) cx dX9_photosNeeded_124 (by decide) ?_
              refine xr_istore_3 cx dX9_photosNeeded_125 ?_
              refine xr_goto (tgt := 32) cx dX9_photosNeeded_126 (by decide) ?_
              refine xr_iload_3 cx dX9_photosNeeded_32 ?_
              refine xr_if_eq (tgt := 129) cx dX9_photosNeeded_33 (by decide) (fun cq33 => ?_) (fun cq33 => ?_)
              · rw [Int32.add_zero]
                exact h _ _ _ _ _
              · exact absurd rfl cq33
            · exact absurd rfl cq102
        · exact absurd rfl cq46
    | some p =>
      have hnx := (mGo_some hg).2
      have hp6 := mNext_lt hnx iy3
      obtain ⟨jx, j1, j2, j3, j4⟩ := mWrite_ix hx hp6 hlt
      obtain ⟨kx1, kx2, kx3, kx4, ky1, ky2, ky3, ky4⟩ := id jx
      rw [mRun_some hg] at h
      refine xr_iload_3 cx dX9_photosNeeded_32 ?_
      refine xr_if_eq (tgt := 129) cx dX9_photosNeeded_33 (by decide) (fun cq33 => ?_) (fun cq33 => ?_)
      · exact absurd cq33 (by decide)
      · refine xr_aload_0 cx dX9_photosNeeded_36 ?_
        refine xr_V0i (ν := mX9_panelForNext) cx dX9_photosNeeded_37 rfl ml_X9_66 vf_X9_panelForNext g0 (Nat.le_of_ble_eq_true rfl) (m_X9_panelForNext hG hx ?_)
        rw [hnx]
        show XG _ _ _ _ [.int (nI p)] _
        refine xr_istore_4 cx dX9_photosNeeded_40 ?_
        refine xr_iload_4 cx dX9_photosNeeded_42 ?_
        refine xr_bipush (v := -5) cx dX9_photosNeeded_44 (by decide) ?_
        refine xr_icmp_eq (tgt := 60) cx dX9_photosNeeded_46 (by decide) (fun cq46 => ?_) (fun cq46 => ?_)
        · exact absurd cq46 (nI_nm5 (by omega))
        · refine xr_iload_4 cx dX9_photosNeeded_49 ?_
          refine xr_aload_0 cx dX9_photosNeeded_51 ?_
          refine xr_getR cx dX9_photosNeeded_52 fl_X9_7 g0 rfl ?_
          refine xr_iconst (v := 3) cx dX9_photosNeeded_55 (by decide) ?_
          refine xr_ialdN (j := 3) cx dX9_photosNeeded_56 g1 rfl (by decide) (by decide) ?_
          rw [su_same]
          rw [ix3]
          refine xr_icmp_ne (tgt := 64) cx dX9_photosNeeded_57 (by decide) (fun cq57 => ?_) (fun cq57 => ?_)
          · have hpu : p ≠ mUs c := fun q => cq57 (by rw [q])
            refine xr_aload_0 cx dX9_photosNeeded_64 ?_
            refine xr_getR cx dX9_photosNeeded_65 fl_X9_7 g0 rfl ?_
            refine xr_bipush (v := 17) cx dX9_photosNeeded_68 (by decide) ?_
            refine xr_iload_4 cx dX9_photosNeeded_70 ?_
            refine xr_iadd cx dX9_photosNeeded_72 ?_
            refine xr_ialdN (j := 17 + p) cx dX9_photosNeeded_73 g1 (nI_add 17 p) (by omega) (by decide) ?_
            rw [su_same]
            refine xr_iload_1 cx dX9_photosNeeded_74 ?_
            refine xr_iconst (v := -1) cx dX9_photosNeeded_75 (by decide) ?_
            refine xr_ixor cx dX9_photosNeeded_76 ?_
            refine xr_iand cx dX9_photosNeeded_77 ?_
            rw [hon, xOp_and hp6 hop]
            refine xr_istore_5 cx dX9_photosNeeded_78 ?_
            refine xr_iload_1 cx dX9_photosNeeded_80 ?_
            refine xr_iload_5 cx dX9_photosNeeded_81 ?_
            refine xr_ior cx dX9_photosNeeded_83 ?_
            refine xr_istore_1 cx dX9_photosNeeded_84 ?_
            refine xr_iload_2 cx dX9_photosNeeded_85 ?_
            refine xr_iload_5 cx dX9_photosNeeded_86 ?_
            refine xr_if_ne (tgt := 95) cx dX9_photosNeeded_88 (by decide) (fun cq88 => ?_) (fun cq88 => ?_)
            · rw [hph, if_pos ⟨hpu, cq88⟩] at h
              refine xr_iconst (v := 1) cx dX9_photosNeeded_95 (by decide) ?_
              refine xr_iadd cx dX9_photosNeeded_96 ?_
              refine xr_istore_2 cx dX9_photosNeeded_97 ?_
              refine xr_aload_0 cx dX9_photosNeeded_98 ?_
              refine xr_V0i (ν := mX9_writes) cx dX9_photosNeeded_99 rfl ml_X9_89 vf_X9_writes g0 (Nat.le_of_ble_eq_true rfl) (m_X9_writes_s hG hx hg ?_)
              refine xr_if_eq (tgt := 124) cx dX9_photosNeeded_102 (by decide) (fun cq102 => ?_) (fun cq102 => ?_)
              · exact absurd cq102 (by decide)
              · refine xr_aload_0 cx dX9_photosNeeded_105 ?_
                refine xr_getR cx dX9_photosNeeded_106 fl_X9_7 g0 rfl ?_
                refine xr_iconst (v := 2) cx dX9_photosNeeded_109 (by decide) ?_
                refine xr_ialdN (j := 2) cx dX9_photosNeeded_110 g1 rfl (by decide) (by decide) ?_
                rw [su_same]
                refine xr_aload_0 cx dX9_photosNeeded_111 ?_
                refine xr_getR cx dX9_photosNeeded_112 fl_X9_7 g0 rfl ?_
                refine xr_iconst (v := 1) cx dX9_photosNeeded_115 (by decide) ?_
                refine xr_ialdN (j := 1) cx dX9_photosNeeded_116 g1 rfl (by decide) (by decide) ?_
                rw [su_same]
                rw [jx.2.1, jx.1]
                refine xr_icmp_ge (tgt := 124) cx dX9_photosNeeded_117 (by decide) (fun cq117 => ?_) (fun cq117 => ?_)
                · have hm : (0 : Int32) = if mWr (mWrite c p) < mSt (mWrite c p) then 1 else 0 := (if_neg (fun q => nI_ge q (by omega) cq117)).symm
                  refine xr_iconst (v := 0) cx dX9_photosNeeded_124 (by decide) ?_
                  refine xr_istore_3 cx dX9_photosNeeded_125 ?_
                  refine xr_goto (tgt := 32) cx dX9_photosNeeded_126 (by decide) ?_
                  exact ih (mWrite c p) (op ||| (c (17 + p) &&& (ph ^^^ (-1)))) _ _ _ _ _ (mWrite_inv hI hp6 hlt) ((mWrite_ph hp6 hx).trans hph) (by omega) (xOp_step hI hp6 hlt hop (fun s hs hb => (by rw [b_or, b_and] at hb; cases e1 : bt op s; rw [e1, Bool.false_or] at hb; exact Or.inr ⟨hpu, (Bool.and_eq_true_iff.mp hb).1⟩; exact Or.inl rfl))) (by first | rw [hon, Int32.or_assoc] | rw [Int32.or_assoc]) hm (by first | exact h | (rw [Int32.add_zero]; exact h))
                · have hm : (1 : Int32) = if mWr (mWrite c p) < mSt (mWrite c p) then 1 else 0 := (if_pos (Nat.lt_of_not_le (fun q => cq117 (nI_le q (by omega))))).symm
                  refine xr_iconst (v := 1) cx dX9_photosNeeded_120 (by decide) ?_
                  refine xr_goto (tgt := 125) cx dX9_photosNeeded_121 (by decide) ?_
                  refine xr_istore_3 cx dX9_photosNeeded_125 ?_
                  refine xr_goto (tgt := 32) cx dX9_photosNeeded_126 (by decide) ?_
                  exact ih (mWrite c p) (op ||| (c (17 + p) &&& (ph ^^^ (-1)))) _ _ _ _ _ (mWrite_inv hI hp6 hlt) ((mWrite_ph hp6 hx).trans hph) (by omega) (xOp_step hI hp6 hlt hop (fun s hs hb => (by rw [b_or, b_and] at hb; cases e1 : bt op s; rw [e1, Bool.false_or] at hb; exact Or.inr ⟨hpu, (Bool.and_eq_true_iff.mp hb).1⟩; exact Or.inl rfl))) (by first | rw [hon, Int32.or_assoc] | rw [Int32.or_assoc]) hm (by first | exact h | (rw [Int32.add_zero]; exact h))
            · rw [hph, if_neg (fun q => q.2 cq88)] at h
              refine xr_iconst (v := 0) cx dX9_photosNeeded_91 (by decide) ?_
              refine xr_goto (tgt := 96) cx dX9_photosNeeded_92 (by decide) ?_
              refine xr_iadd cx dX9_photosNeeded_96 ?_
              refine xr_istore_2 cx dX9_photosNeeded_97 ?_
              refine xr_aload_0 cx dX9_photosNeeded_98 ?_
              refine xr_V0i (ν := mX9_writes) cx dX9_photosNeeded_99 rfl ml_X9_89 vf_X9_writes g0 (Nat.le_of_ble_eq_true rfl) (m_X9_writes_s hG hx hg ?_)
              refine xr_if_eq (tgt := 124) cx dX9_photosNeeded_102 (by decide) (fun cq102 => ?_) (fun cq102 => ?_)
              · exact absurd cq102 (by decide)
              · refine xr_aload_0 cx dX9_photosNeeded_105 ?_
                refine xr_getR cx dX9_photosNeeded_106 fl_X9_7 g0 rfl ?_
                refine xr_iconst (v := 2) cx dX9_photosNeeded_109 (by decide) ?_
                refine xr_ialdN (j := 2) cx dX9_photosNeeded_110 g1 rfl (by decide) (by decide) ?_
                rw [su_same]
                refine xr_aload_0 cx dX9_photosNeeded_111 ?_
                refine xr_getR cx dX9_photosNeeded_112 fl_X9_7 g0 rfl ?_
                refine xr_iconst (v := 1) cx dX9_photosNeeded_115 (by decide) ?_
                refine xr_ialdN (j := 1) cx dX9_photosNeeded_116 g1 rfl (by decide) (by decide) ?_
                rw [su_same]
                rw [jx.2.1, jx.1]
                refine xr_icmp_ge (tgt := 124) cx dX9_photosNeeded_117 (by decide) (fun cq117 => ?_) (fun cq117 => ?_)
                · have hm : (0 : Int32) = if mWr (mWrite c p) < mSt (mWrite c p) then 1 else 0 := (if_neg (fun q => nI_ge q (by omega) cq117)).symm
                  refine xr_iconst (v := 0) cx dX9_photosNeeded_124 (by decide) ?_
                  refine xr_istore_3 cx dX9_photosNeeded_125 ?_
                  refine xr_goto (tgt := 32) cx dX9_photosNeeded_126 (by decide) ?_
                  exact ih (mWrite c p) (op ||| (c (17 + p) &&& (ph ^^^ (-1)))) _ _ _ _ _ (mWrite_inv hI hp6 hlt) ((mWrite_ph hp6 hx).trans hph) (by omega) (xOp_step hI hp6 hlt hop (fun s hs hb => (by rw [b_or, b_and] at hb; cases e1 : bt op s; rw [e1, Bool.false_or] at hb; exact Or.inr ⟨hpu, (Bool.and_eq_true_iff.mp hb).1⟩; exact Or.inl rfl))) (by first | rw [hon, Int32.or_assoc] | rw [Int32.or_assoc]) hm (by first | exact h | (rw [Int32.add_zero]; exact h))
                · have hm : (1 : Int32) = if mWr (mWrite c p) < mSt (mWrite c p) then 1 else 0 := (if_pos (Nat.lt_of_not_le (fun q => cq117 (nI_le q (by omega))))).symm
                  refine xr_iconst (v := 1) cx dX9_photosNeeded_120 (by decide) ?_
                  refine xr_goto (tgt := 125) cx dX9_photosNeeded_121 (by decide) ?_
                  refine xr_istore_3 cx dX9_photosNeeded_125 ?_
                  refine xr_goto (tgt := 32) cx dX9_photosNeeded_126 (by decide) ?_
                  exact ih (mWrite c p) (op ||| (c (17 + p) &&& (ph ^^^ (-1)))) _ _ _ _ _ (mWrite_inv hI hp6 hlt) ((mWrite_ph hp6 hx).trans hph) (by omega) (xOp_step hI hp6 hlt hop (fun s hs hb => (by rw [b_or, b_and] at hb; cases e1 : bt op s; rw [e1, Bool.false_or] at hb; exact Or.inr ⟨hpu, (Bool.and_eq_true_iff.mp hb).1⟩; exact Or.inl rfl))) (by first | rw [hon, Int32.or_assoc] | rw [Int32.or_assoc]) hm (by first | exact h | (rw [Int32.add_zero]; exact h))
          · have hpu : p = mUs c := nI_inj (by omega) (by omega) cq57
            rw [if_neg (fun q => q.1 hpu)] at h
            refine xr_iconst (v := 0) cx dX9_photosNeeded_60 (by decide) ?_
            refine xr_goto (tgt := 78) cx dX9_photosNeeded_61 (by decide) ?_
            refine xr_istore_5 cx dX9_photosNeeded_78 ?_
            refine xr_iload_1 cx dX9_photosNeeded_80 ?_
            refine xr_iload_5 cx dX9_photosNeeded_81 ?_
            refine xr_ior cx dX9_photosNeeded_83 ?_
            refine xr_istore_1 cx dX9_photosNeeded_84 ?_
            refine xr_iload_2 cx dX9_photosNeeded_85 ?_
            refine xr_iload_5 cx dX9_photosNeeded_86 ?_
            refine xr_if_ne (tgt := 95) cx dX9_photosNeeded_88 (by decide) (fun cq88 => ?_) (fun cq88 => ?_)
            · exact absurd rfl cq88
            · refine xr_iconst (v := 0) cx dX9_photosNeeded_91 (by decide) ?_
              refine xr_goto (tgt := 96) cx dX9_photosNeeded_92 (by decide) ?_
              refine xr_iadd cx dX9_photosNeeded_96 ?_
              refine xr_istore_2 cx dX9_photosNeeded_97 ?_
              refine xr_aload_0 cx dX9_photosNeeded_98 ?_
              refine xr_V0i (ν := mX9_writes) cx dX9_photosNeeded_99 rfl ml_X9_89 vf_X9_writes g0 (Nat.le_of_ble_eq_true rfl) (m_X9_writes_s hG hx hg ?_)
              refine xr_if_eq (tgt := 124) cx dX9_photosNeeded_102 (by decide) (fun cq102 => ?_) (fun cq102 => ?_)
              · exact absurd cq102 (by decide)
              · refine xr_aload_0 cx dX9_photosNeeded_105 ?_
                refine xr_getR cx dX9_photosNeeded_106 fl_X9_7 g0 rfl ?_
                refine xr_iconst (v := 2) cx dX9_photosNeeded_109 (by decide) ?_
                refine xr_ialdN (j := 2) cx dX9_photosNeeded_110 g1 rfl (by decide) (by decide) ?_
                rw [su_same]
                refine xr_aload_0 cx dX9_photosNeeded_111 ?_
                refine xr_getR cx dX9_photosNeeded_112 fl_X9_7 g0 rfl ?_
                refine xr_iconst (v := 1) cx dX9_photosNeeded_115 (by decide) ?_
                refine xr_ialdN (j := 1) cx dX9_photosNeeded_116 g1 rfl (by decide) (by decide) ?_
                rw [su_same]
                rw [jx.2.1, jx.1]
                refine xr_icmp_ge (tgt := 124) cx dX9_photosNeeded_117 (by decide) (fun cq117 => ?_) (fun cq117 => ?_)
                · have hm : (0 : Int32) = if mWr (mWrite c p) < mSt (mWrite c p) then 1 else 0 := (if_neg (fun q => nI_ge q (by omega) cq117)).symm
                  refine xr_iconst (v := 0) cx dX9_photosNeeded_124 (by decide) ?_
                  refine xr_istore_3 cx dX9_photosNeeded_125 ?_
                  refine xr_goto (tgt := 32) cx dX9_photosNeeded_126 (by decide) ?_
                  exact ih (mWrite c p) (op ||| 0) _ _ _ _ _ (mWrite_inv hI hp6 hlt) ((mWrite_ph hp6 hx).trans hph) (by omega) (xOp_step hI hp6 hlt hop (fun s hs hb => (by rw [b_or, b_0, Bool.or_false] at hb; exact Or.inl hb))) (by first | rw [hon, Int32.or_assoc] | rw [Int32.or_assoc]) hm (by first | exact h | (rw [Int32.add_zero]; exact h))
                · have hm : (1 : Int32) = if mWr (mWrite c p) < mSt (mWrite c p) then 1 else 0 := (if_pos (Nat.lt_of_not_le (fun q => cq117 (nI_le q (by omega))))).symm
                  refine xr_iconst (v := 1) cx dX9_photosNeeded_120 (by decide) ?_
                  refine xr_goto (tgt := 125) cx dX9_photosNeeded_121 (by decide) ?_
                  refine xr_istore_3 cx dX9_photosNeeded_125 ?_
                  refine xr_goto (tgt := 32) cx dX9_photosNeeded_126 (by decide) ?_
                  exact ih (mWrite c p) (op ||| 0) _ _ _ _ _ (mWrite_inv hI hp6 hlt) ((mWrite_ph hp6 hx).trans hph) (by omega) (xOp_step hI hp6 hlt hop (fun s hs hb => (by rw [b_or, b_0, Bool.or_false] at hb; exact Or.inl hb))) (by first | rw [hon, Int32.or_assoc] | rw [Int32.or_assoc]) hm (by first | exact h | (rw [Int32.add_zero]; exact h))
theorem m_X9_photosNeeded {l : Launch} {E : XEnv} {d : Nat} {σ : XSt} {a : Nat → Int32} {Q : Int32 → XSt → Prop} (hG : xGl E) {hl : List (Nat → Int32)} {sn : Option (Nat → Int32)} {t : Nat → Int32} {L : Nat} (hM : MRel σ a hl sn t L) (hI : xInv a)  (h : ∀ τ, MRel τ a hl sn t L → (∀ k, 8 ≤ k → τ k = σ k) → Q (mRun 30 a 0).2 τ) : XMi l E (d + 4) mX9_photosNeeded [.ref (xad E 0)] σ Q := by
  have g0 := hG.1
  have g1 := hG.2.1
  have g2 := hG.2.2.1
  have g3 := hG.2.2.2.1
  have g4 := hG.2.2.2.2.1
  have g5 := hG.2.2.2.2.2.1
  have g6 := hG.2.2.2.2.2.2.1
  have g7 := hG.2.2.2.2.2.2.2.1
  have hS : su σ 1 a = σ := by rw [← hM.1]; exact su_id σ 1
  obtain ⟨hx, hO, hN, hD, hW, hE, hA⟩ := id hI
  obtain ⟨ix1, ix2, ix3, ix4, iy1, iy2, iy3, iy4⟩ := id hx
  rw [← hS]
  refine xr_entry (lv := [some (.ref (xad E 0)), none, none, none, none, none]) (by decide +kernel) (by simp [Value.category]) (Nat.le_of_ble_eq_true rfl) rfl (fun w hw cx cz => ?_)
  subst hw
  refine xr_aload_0 cx dX9_photosNeeded_0 ?_
  refine xr_V0v (ν := mX9_remember) cx dX9_photosNeeded_1 rfl ml_X9_79 vf_X9_remember g0 (Nat.le_of_ble_eq_true rfl) (m_X9_remember hG ?_)
  rw [su_same, su_comm σ a a (by decide)]
  refine xr_aload_0 cx dX9_photosNeeded_4 ?_
  refine xr_V0i (ν := mX9_onPhotos) cx dX9_photosNeeded_5 rfl ml_X9_41 vf_X9_onPhotos g0 (Nat.le_of_ble_eq_true rfl) (m_X9_onPhotos hG hx ?_)
  refine xr_istore_1 cx dX9_photosNeeded_8 ?_
  refine xr_iconst (v := 0) cx dX9_photosNeeded_9 (by decide) ?_
  refine xr_istore_2 cx dX9_photosNeeded_10 ?_
  refine xr_aload_0 cx dX9_photosNeeded_11 ?_
  refine xr_getR cx dX9_photosNeeded_12 fl_X9_7 g0 rfl ?_
  refine xr_iconst (v := 2) cx dX9_photosNeeded_15 (by decide) ?_
  refine xr_ialdN (j := 2) cx dX9_photosNeeded_16 g1 rfl (by decide) (by decide) ?_
  rw [su_same]
  refine xr_aload_0 cx dX9_photosNeeded_17 ?_
  refine xr_getR cx dX9_photosNeeded_18 fl_X9_7 g0 rfl ?_
  refine xr_iconst (v := 1) cx dX9_photosNeeded_21 (by decide) ?_
  refine xr_ialdN (j := 1) cx dX9_photosNeeded_22 g1 rfl (by decide) (by decide) ?_
  rw [su_same]
  rw [ix1, ix2]
  refine xr_icmp_ge (tgt := 30) cx dX9_photosNeeded_23 (by decide) (fun cq23 => ?_) (fun cq23 => ?_)
  · have hm : (0 : Int32) = if mWr a < mSt a then 1 else 0 := (if_neg (fun q => nI_ge q (by omega) cq23)).symm
    refine xr_iconst (v := 0) cx dX9_photosNeeded_30 (by decide) ?_
    refine xr_istore_3 cx dX9_photosNeeded_31 ?_
    refine lp_X9_photosNeeded hG cx 30 a 0 0 _ _ _ _ hI rfl (by omega) (fun s hs hb => by rw [b_0] at hb; cases hb) (Int32.or_zero).symm hm (fun r u z v4 v5 => ?_)
    refine xr_aload_0 cx dX9_photosNeeded_129 ?_
    refine xr_V0v (ν := mX9_giveBack) cx dX9_photosNeeded_130 rfl ml_X9_93 vf_X9_giveBack g0 (Nat.le_of_ble_eq_true rfl) (m_X9_giveBack hG ?_)
    rw [su_su, su_ne _ _ (by decide), su_same]
    refine xr_iload_2 cx dX9_photosNeeded_133 ?_
    refine xr_iret cx cz dX9_photosNeeded_134 rfl ?_
    exact h _ (MRel_1 (MRel_2 hM)) (fun k hk => by rw [su_ne _ _ (by omega), su_ne _ _ (by omega)])
  · have hm : (1 : Int32) = if mWr a < mSt a then 1 else 0 := (if_pos (Nat.lt_of_not_le (fun q => cq23 (nI_le q (by omega))))).symm
    refine xr_iconst (v := 1) cx dX9_photosNeeded_26 (by decide) ?_
    refine xr_goto (tgt := 31) cx dX9_photosNeeded_27 (by decide) ?_
    refine xr_istore_3 cx dX9_photosNeeded_31 ?_
    refine lp_X9_photosNeeded hG cx 30 a 0 0 _ _ _ _ hI rfl (by omega) (fun s hs hb => by rw [b_0] at hb; cases hb) (Int32.or_zero).symm hm (fun r u z v4 v5 => ?_)
    refine xr_aload_0 cx dX9_photosNeeded_129 ?_
    refine xr_V0v (ν := mX9_giveBack) cx dX9_photosNeeded_130 rfl ml_X9_93 vf_X9_giveBack g0 (Nat.le_of_ble_eq_true rfl) (m_X9_giveBack hG ?_)
    rw [su_su, su_ne _ _ (by decide), su_same]
    refine xr_iload_2 cx dX9_photosNeeded_133 ?_
    refine xr_iret cx cz dX9_photosNeeded_134 rfl ?_
    exact h _ (MRel_1 (MRel_2 hM)) (fun k hk => by rw [su_ne _ _ (by omega), su_ne _ _ (by omega)])
