theorem pRun_lt {N : Nat} {t : Nat → Int32} : ∀ (n i j : Nat) (s : PS), pRun N t n i s = .inl j → j < i + n
  | 0, i, j, s, z => by cases z
  | n + 1, i, j, s, z => by
    rw [pRun] at z
    cases hs : pStep N (t i) s with
    | none => rw [hs] at z; cases z; omega
    | some r => rw [hs] at z; have := pRun_lt n (i + 1) j r z; omega
theorem pRun_cong {N : Nat} {t u : Nat → Int32} : ∀ (n i : Nat) (s : PS), (∀ k, i ≤ k → k < i + n → t k = u k) → pRun N t n i s = pRun N u n i s
  | 0, _, _, _ => rfl
  | n + 1, i, s, h => by
    rw [pRun, pRun, h i (Nat.le_refl _) (by omega)]
    cases pStep N (u i) s with
    | none => rfl
    | some r => exact pRun_cong n (i + 1) r (fun k h1 h2 => h k (by omega) (by omega))
/-- two states of reading that differ only in what is not read -/
def pSame (s q : PS) : Prop := s.1 = q.1 ∧ s.2.1 = q.2.1 ∧ (s.1 = 3 ∨ s.1 = 4 → s.2.2.1 = q.2.2.1) ∧ (∀ k, k < s.2.1 → s.2.2.2.1 k = q.2.2.2.1 k) ∧ ∀ k, k < s.2.1 → s.2.2.2.2 k = q.2.2.2.2 k
theorem lp_X9_readPlan {E : XEnv} {d N F : Nat} {ln nd : Nat → Int32} {σ : XSt} {w : XO} {y : Option Value} (hG : xGl E) (hNF : N + F ≤ 30) (hok : pNok N nd F) (h11 : σ 0 11 = nI F) (h6 : ∀ k, k < F → σ 6 k = ln k) (h7 : ∀ k, k < F → σ 7 k = nd k) (cx : CX (d + 5) w E mX9_readPlan) : ∀ n i {b : Nat → Int32}, i + n = F → xInv b → mSt b = N + i → XG w E 71 [some (.ref (xad E 0)), y, some (.int (nI F))] [] (su σ 1 (mPlans b ln nd n i)) → XG w E 41 [some (.ref (xad E 0)), y, some (.int (nI i))] [] (su σ 1 b) := by
  have g0 := hG.1
  have g1 := hG.2.1
  have g2 := hG.2.2.1
  have g3 := hG.2.2.2.1
  have g4 := hG.2.2.2.2.1
  have g5 := hG.2.2.2.2.2.1
  have g6 := hG.2.2.2.2.2.2.1
  have g7 := hG.2.2.2.2.2.2.2.1
  intro n
  induction n with
  | zero =>
    intro i b hi hI hS h
    obtain rfl : i = F := by omega
    refine xr_iload_2 cx dX9_readPlan_41 ?_
    refine xr_aload_0 cx dX9_readPlan_42 ?_
    refine xr_getI cx dX9_readPlan_43 fl_X9_120 g0 rfl ?_
    rw [su_ne _ _ (by decide), h11]
    refine xr_icmp_ge (tgt := 71) cx dX9_readPlan_46 (by decide) (fun cq46 => ?_) (fun cq46 => ?_)
    · exact h
    · exact absurd (nI_le (a := i) (b := i) (by omega) (by omega)) cq46
  | succ n ih =>
    intro i b hi hI hS h
    refine xr_iload_2 cx dX9_readPlan_41 ?_
    refine xr_aload_0 cx dX9_readPlan_42 ?_
    refine xr_getI cx dX9_readPlan_43 fl_X9_120 g0 rfl ?_
    rw [su_ne _ _ (by decide), h11]
    refine xr_icmp_ge (tgt := 71) cx dX9_readPlan_46 (by decide) (fun cq46 => ?_) (fun cq46 => ?_)
    · exact absurd cq46 (nI_ge (a := i) (b := F) (by omega) (by omega))
    · refine xr_aload_0 cx dX9_readPlan_49 ?_
      refine xr_aload_0 cx dX9_readPlan_50 ?_
      refine xr_getR cx dX9_readPlan_51 fl_X9_25 g0 rfl ?_
      refine xr_iload_2 cx dX9_readPlan_54 ?_
      refine xr_ialdN (j := i) cx dX9_readPlan_55 g6 rfl (by omega) (by decide) ?_
      rw [su_ne _ _ (by decide), h6 i (by omega)]
      refine xr_aload_0 cx dX9_readPlan_56 ?_
      refine xr_getR cx dX9_readPlan_57 fl_X9_28 g0 rfl ?_
      refine xr_iload_2 cx dX9_readPlan_60 ?_
      refine xr_ialdN (j := i) cx dX9_readPlan_61 g7 rfl (by omega) (by decide) ?_
      rw [su_ne _ _ (by decide), h7 i (by omega)]
      refine xr_V2v (ν := mX9_plans) cx dX9_readPlan_62 rfl ml_X9_85 vf_X9_plans g0 (Nat.le_of_ble_eq_true rfl) (m_X9_plans hG hI (show mSt b < 30 by omega) ?_)
      refine xr_iinc_2 (y := 1) cx dX9_readPlan_65 (by decide) ?_
      refine xr_goto (tgt := 41) cx dX9_readPlan_68 (by decide) ?_
      rw [nI_1]
      exact ih (i + 1) (by omega) (mPlan_inv hI (show mSt b < 30 by omega) (fun k z1 z2 => hok i (by omega) k (by omega) z2)) (by rw [mPlan_st hI.1 (show mSt b < 30 by omega), hS]; omega) h
theorem m_X9_readPlan {l : Launch} {E : XEnv} {d : Nat} {σ : XSt} {a : Nat → Int32} {Q : Int32 → XSt → Prop} (hG : xGl E) {ln nd : Nat → Int32} {num : Int32} {hl : List (Nat → Int32)} {sn : Option (Nat → Int32)} {t : Nat → Int32} {L : Nat} (hM : MRel σ a hl sn t L) (hI : xInv a)  (h : ∀ τ, MAct σ τ a hl sn t L (oRead a L (pRun (mSt a) t L 0 (0, 0, num, ln, nd))).2 → Q (oRead a L (pRun (mSt a) t L 0 (0, 0, num, ln, nd))).1 τ) : XMi l E (d + 5) mX9_readPlan [.ref (xad E 0)] σ Q := by
  have g0 := hG.1
  have g1 := hG.2.1
  have g2 := hG.2.2.1
  have g3 := hG.2.2.2.1
  have g4 := hG.2.2.2.2.1
  have g5 := hG.2.2.2.2.2.1
  have g6 := hG.2.2.2.2.2.2.1
  have g7 := hG.2.2.2.2.2.2.2.1
  have hS : su σ 1 a = σ := by rw [← hM.1]; exact su_id σ 1
  obtain ⟨hx, hO, hN, hD, hW, hE, hA⟩ := id hI
  obtain ⟨ix1, ix2, ix3, ix4, iy1, iy2, iy3, iy4⟩ := id hx
  have hL60 := hM.2.2.2.2.1
  refine xr_entry (lv := [some (.ref (xad E 0)), none, none]) (by decide +kernel) (by simp [Value.category]) (Nat.le_of_ble_eq_true rfl) rfl (fun w hw cx cz => ?_)
  subst hw
  refine xr_aload_0 cx dX9_readPlan_0 ?_
  refine xr_V0i (ν := mX9_fault) cx dX9_readPlan_1 rfl ml_X9_132 vf_X9_fault g0 (Nat.le_of_ble_eq_true rfl) (m_X9_fault (num := num) (ln := ln) (nd := nd) hG iy2 (by rw [hM.1]; exact ix1) hM.2.2.2 (fun τ j u1 u2 u3 => ?_) (fun τ q u1 u2 u3 u4 u5 u6 => ?_))
  · refine xr_istore_1 cx dX9_readPlan_4 ?_
    refine xr_iload_1 cx dX9_readPlan_5 ?_
    refine xr_bipush (v := -5) cx dX9_readPlan_6 (by decide) ?_
    refine xr_icmp_eq (tgt := 16) cx dX9_readPlan_8 (by decide) (fun cq8 => ?_) (fun cq8 => ?_)
    · exact absurd cq8 (nI_nm5 (by omega))
    · refine xr_bipush (v := -100) cx dX9_readPlan_11 (by decide) ?_
      refine xr_iload_1 cx dX9_readPlan_13 ?_
      refine xr_isub cx dX9_readPlan_14 ?_
      refine xr_iret cx cz dX9_readPlan_15 rfl ?_
      have hor : oRead a L (pRun (mSt a) t L 0 (0, 0, num, ln, nd)) = (-100 - nI j, none) := by
        unfold oRead
        rw [if_pos (by rw [show pAns L (pRun (mSt a) t L 0 (0, 0, num, ln, nd)) = nI j from u3]; exact nI_nm1 (by omega)), show pAns L (pRun (mSt a) t L 0 (0, 0, num, ln, nd)) = nI j from u3]
      rw [hor] at h
      exact h τ ⟨MRel_TG hM u1, fun k hk => u1.1 k (by omega) (by omega) (by omega)⟩
  · refine xr_istore_1 cx dX9_readPlan_4 ?_
    refine xr_iload_1 cx dX9_readPlan_5 ?_
    refine xr_bipush (v := -5) cx dX9_readPlan_6 (by decide) ?_
    refine xr_icmp_eq (tgt := 16) cx dX9_readPlan_8 (by decide) (fun cq8 => ?_) (fun cq8 => ?_)
    · have hr2 : (pRun (mSt a) t L 0 (0, 0, num, ln, nd)) = .inr q := u2
      have hMt := MRel_TG hM u1
      have hgd := pRun_good (N := mSt a) (t := t) iy2 L 0 (by omega) hr2 ⟨fun k hk => absurd hk (Nat.not_lt_zero k), fun z => by rcases z with z | z <;> cases z⟩ ⟨Nat.zero_le _, Nat.zero_le _, fun z => absurd rfl z⟩ (by unfold pFit; rw [if_pos rfl]; exact Nat.zero_le _)
      have hF30 := hgd.2.2.1
      have hok := pNd_ok hgd.1 hgd.2 iy2
      have hor : oRead a L (pRun (mSt a) t L 0 (0, 0, num, ln, nd)) = if 30 < a 1 + nI q.2.1 then (-3, none) else (mPlans a q.2.2.2.1 (pNd q) q.2.1 0 1, some (mPlans a q.2.2.2.1 (pNd q) q.2.1 0)) := by
        unfold oRead
        rw [hr2, if_neg (fun z => z (show pAns L (.inr q) = -1 from if_neg u3))]
      rw [hor] at h
      have hSt : su τ 1 a = τ := by rw [← hMt.1]; exact su_id τ 1
      rw [← hSt]
      refine xr_aload_0 cx dX9_readPlan_16 ?_
      refine xr_getR cx dX9_readPlan_17 fl_X9_7 g0 rfl ?_
      refine xr_iconst (v := 1) cx dX9_readPlan_20 (by decide) ?_
      refine xr_ialdN (j := 1) cx dX9_readPlan_21 g1 rfl (by decide) (by decide) ?_
      rw [su_same]
      refine xr_aload_0 cx dX9_readPlan_22 ?_
      refine xr_getI cx dX9_readPlan_23 fl_X9_120 g0 rfl ?_
      rw [su_ne _ _ (by decide), u4]
      refine xr_iadd cx dX9_readPlan_26 ?_
      refine xr_bipush (v := 30) cx dX9_readPlan_27 (by decide) ?_
      refine xr_icmp_le (tgt := 35) cx dX9_readPlan_29 (by decide) (fun cq29 => ?_) (fun cq29 => ?_)
      · rw [if_neg (fun z => Int32.not_le.mpr z cq29)] at h
        have hNF : mSt a + q.2.1 ≤ 30 := by
          rw [ix1, nI_add] at cq29
          exact (nI_leI (a := mSt a + q.2.1) (b := 30) (by omega) (by decide)).mp cq29
        refine xr_aload_0 cx dX9_readPlan_35 ?_
        refine xr_V0v (ν := mX9_remember) cx dX9_readPlan_36 rfl ml_X9_79 vf_X9_remember g0 (Nat.le_of_ble_eq_true rfl) (m_X9_remember hG ?_)
        rw [su_same, su_comm τ a a (by decide)]
        refine xr_iconst (v := 0) cx dX9_readPlan_39 (by decide) ?_
        refine xr_istore_2 cx dX9_readPlan_40 ?_
        refine lp_X9_readPlan (ln := q.2.2.2.1) (nd := pNd q) (σ := su τ 2 a) hG hNF hok (by rw [su_ne _ _ (by decide)]; exact u4) (fun k hk => by rw [su_ne _ _ (by decide)]; exact u5 k hk) (fun k hk => by rw [su_ne _ _ (by decide)]; exact u6 k hk) cx q.2.1 0 (Nat.zero_add _) hI rfl ?_
        refine xr_aload_0 cx dX9_readPlan_71 ?_
        refine xr_aload_0 cx dX9_readPlan_72 ?_
        refine xr_getR cx dX9_readPlan_73 fl_X9_7 g0 rfl ?_
        refine xr_iconst (v := 1) cx dX9_readPlan_76 (by decide) ?_
        refine xr_ialdN (j := 1) cx dX9_readPlan_77 g1 rfl (by decide) (by decide) ?_
        rw [su_same]
        refine xr_V1i (ν := mX9_acted) cx dX9_readPlan_78 rfl ml_X9_82 vf_X9_acted g0 (Nat.le_of_ble_eq_true rfl) (m_X9_acted hG (MRel_1 (MRel_2 hMt)) (by rw [su_ne _ _ (by decide), su_same]) (fun κ r1 r2 => ?_))
        refine xr_iret cx cz dX9_readPlan_81 rfl ?_
        exact h κ ⟨r1, fun k hk => by rw [r2 k hk, su_ne _ _ (by omega), su_ne _ _ (by omega)]; exact u1.1 k (by omega) (by omega) (by omega)⟩
      · rw [if_pos (Int32.not_le.mp cq29)] at h
        refine xr_bipush (v := -3) cx dX9_readPlan_32 (by decide) ?_
        refine xr_iret cx cz dX9_readPlan_34 rfl ?_
        exact h _ ⟨by rw [hSt]; exact hMt, fun k hk => by rw [hSt]; exact u1.1 k (by omega) (by omega) (by omega)⟩
    · exact absurd rfl cq8
