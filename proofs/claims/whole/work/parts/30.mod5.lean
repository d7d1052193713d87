theorem mFront_updw {a : Nat → Int32} {k p : Nat} {v : Int32} (h : k < 4 ∨ 7 ≤ k) (hp : p < 6) : mFront (upd a k v) p = mFront a p := by
  unfold mFront
  rw [upd_ne _ _ (by omega)]
theorem mBring_upd {a : Nat → Int32} {k p : Nat} {v : Int32} (hk : 9 ≤ k) (hp : p < 6) (hf : ¬ mFront a p = true) : mBring (upd a k v) p = upd (mPull a (p / 2)) k v := by
  unfold mBring
  rw [if_neg (by rw [mFront_updw (by omega) hp]; exact hf)]
  unfold mPull
  rw [upd_ne _ _ (show 4 + p / 2 ≠ k by omega), upd_ne _ _ (show 8 ≠ k by omega), upd_comm a v _ (show k ≠ 4 + p / 2 by omega), upd_comm _ v _ (show k ≠ 8 by omega)]
theorem mPull_ne {a : Nat → Int32} {c k : Nat} (hc : c < 3) (hk : 9 ≤ k) : mPull a c k = a k := by
  unfold mPull
  rw [upd_ne _ _ (by omega), upd_ne _ _ (by omega)]
theorem or_start (a : Nat → Int32) : ∀ n i (x y : Int32), xit (fun p acc => acc ||| a (17 + p)) n i (x ||| y) = xit (fun p acc => acc ||| a (17 + p)) n i x ||| y
  | 0, _, _, _ => rfl
  | n + 1, i, x, y => by
    rw [xit_succ, xit_succ, ← or_start a n (i + 1) _ y]
    congr 1
    rw [Int32.or_assoc, Int32.or_comm y, ← Int32.or_assoc]
theorem m_X9_ask {l : Launch} {E : XEnv} {d : Nat} {σ : XSt} {a : Nat → Int32} {Q : Int32 → XSt → Prop} (hG : xGl E) {x : Int32} {hl : List (Nat → Int32)} {sn : Option (Nat → Int32)} {t : Nat → Int32} {L : Nat} (hM : MRel σ a hl sn t L) (hI : xInv a)  (h : ∀ τ, MAct σ τ a hl sn t L (oAsk a x).2 → Q (oAsk a x).1 τ) : XMi l E (d + 4) mX9_ask [.ref (xad E 0), .int x] σ Q := by
  have g0 := hG.1
  have g1 := hG.2.1
  have g2 := hG.2.2.1
  have g3 := hG.2.2.2.1
  have g4 := hG.2.2.2.2.1
  have g5 := hG.2.2.2.2.2.1
  have g6 := hG.2.2.2.2.2.2.1
  have g7 := hG.2.2.2.2.2.2.2.1
  have hS : su σ 1 a = σ := by rw [← hM.1]; exact su_id σ 1
  obtain ⟨hx, hO, hN, hD, hW, hE, hA⟩ := id hI
  obtain ⟨ix1, ix2, ix3, ix4, iy1, iy2, iy3, iy4⟩ := id hx
  rw [← hS]
  refine xr_entry (lv := [some (.ref (xad E 0)), some (.int x), none, none]) (by decide +kernel) (by simp [Value.category]) (Nat.le_of_ble_eq_true rfl) rfl (fun w hw cx cz => ?_)
  subst hw
  refine xr_aload_0 cx dX9_ask_0 ?_
  refine xr_iload_1 cx dX9_ask_1 ?_
  refine xr_V1i (ν := mX9_isStep) cx dX9_ask_2 rfl ml_X9_104 vf_X9_isStep g0 (Nat.le_of_ble_eq_true rfl) (m_X9_isStep hG hx ?_)
  refine xr_if_ne (tgt := 10) cx dX9_ask_5 (by decide) (fun cq5 => ?_) (fun cq5 => ?_)
  · have hb : ¬ (x < 0 ∨ a 1 ≤ x) := fun q => by rw [if_pos q] at cq5; exact cq5 rfl
    unfold oAsk at h
    rw [if_neg hb] at h
    obtain ⟨s, hs, rfl⟩ := nI_of (fun q => hb (Or.inl q))
    have hsn : s < mSt a := by
      have := Int32.not_le.mp (fun q => hb (Or.inr q))
      rw [ix1] at this
      exact (nI_ltI hs (by omega)).mp this
    rw [nI_clamp hs] at h
    refine xr_iload_1 cx dX9_ask_10 ?_
    refine xr_aload_0 cx dX9_ask_11 ?_
    refine xr_getR cx dX9_ask_12 fl_X9_7 g0 rfl ?_
    refine xr_iconst (v := 2) cx dX9_ask_15 (by decide) ?_
    refine xr_ialdN (j := 2) cx dX9_ask_16 g1 rfl (by decide) (by decide) ?_
    rw [su_same]
    refine xr_icmp_lt (tgt := 23) cx dX9_ask_17 (by decide) (fun cq17 => ?_) (fun cq17 => ?_)
    · rw [if_neg (fun q => Int32.not_lt.mpr q cq17)] at h
      refine xr_aload_0 cx dX9_ask_23 ?_
      refine xr_V0v (ν := mX9_remember) cx dX9_ask_24 rfl ml_X9_79 vf_X9_remember g0 (Nat.le_of_ble_eq_true rfl) (m_X9_remember hG ?_)
      rw [su_same, su_comm σ a a (by decide)]
      refine xr_aload_0 cx dX9_ask_27 ?_
      refine xr_iload_1 cx dX9_ask_28 ?_
      refine xr_V1i (ν := mX9_panelOf) cx dX9_ask_29 rfl ml_X9_53 vf_X9_panelOf g0 (Nat.le_of_ble_eq_true rfl) (m_X9_panelOf hG (show s < 30 by omega) ?_)
      refine xr_istore_2 cx dX9_ask_32 ?_
      cases hp : mPan a s with
      | none =>
        rw [mAsk_none hp] at h
        refine xr_iload_2 cx dX9_ask_33 ?_
        refine xr_bipush (v := -5) cx dX9_ask_34 (by decide) ?_
        refine xr_icmp_ne (tgt := 55) cx dX9_ask_36 (by decide) (fun cq36 => ?_) (fun cq36 => ?_)
        · exact absurd rfl cq36
        · refine xr_aload_0 cx dX9_ask_39 ?_
          refine xr_iload_1 cx dX9_ask_40 ?_
          refine xr_V1i (ν := mX9_isOnPhoto) cx dX9_ask_41 rfl ml_X9_56 vf_X9_isOnPhoto g0 (Nat.le_of_ble_eq_true rfl) (m_X9_isOnPhoto hG (show s < 30 by omega) hx ?_)
          refine xr_if_eq (tgt := 51) cx dX9_ask_44 (by decide) (fun cq44 => ?_) (fun cq44 => ?_)
          · have hb : ¬ bt (mPh a) s = true := fun q => by rw [if_pos q] at cq44; exact absurd cq44 (by decide)
            rw [if_neg hb] at h
            refine xr_iconst (v := 3) cx dX9_ask_51 (by decide) ?_
            refine xr_goto (tgt := 68) cx dX9_ask_52 (by decide) ?_
            refine xr_istore_3 cx dX9_ask_68 ?_
            refine xr_iload_3 cx dX9_ask_69 ?_
            refine xr_iconst (v := 1) cx dX9_ask_70 (by decide) ?_
            refine xr_icmp_ne (tgt := 81) cx dX9_ask_71 (by decide) (fun cq71 => ?_) (fun cq71 => ?_)
            · refine xr_aload_0 cx dX9_ask_81 ?_
              refine xr_getR cx dX9_ask_82 fl_X9_7 g0 rfl ?_
              refine xr_sipush (v := 169) cx dX9_ask_85 (by decide) ?_
              refine xr_iload_1 cx dX9_ask_88 ?_
              refine xr_iadd cx dX9_ask_89 ?_
              refine xr_dup2 cx dX9_ask_90 rfl rfl ?_
              refine xr_ialdN (j := 169 + s) cx dX9_ask_91 g1 (nI_add 169 s) (by omega) (by decide) ?_
              rw [su_same]
              refine xr_iconst (v := 1) cx dX9_ask_92 (by decide) ?_
              refine xr_iadd cx dX9_ask_93 ?_
              refine xr_iastN (j := 169 + s) cx dX9_ask_94 g1 (nI_add 169 s) (by omega) (by decide) ?_
              rw [su_same, su_su]
              refine xr_aload_0 cx dX9_ask_95 ?_
              refine xr_getR cx dX9_ask_96 fl_X9_7 g0 rfl ?_
              refine xr_bipush (v := 14) cx dX9_ask_99 (by decide) ?_
              refine xr_iload_3 cx dX9_ask_101 ?_
              refine xr_iconst (v := 2) cx dX9_ask_102 (by decide) ?_
              refine xr_icmp_ge (tgt := 110) cx dX9_ask_103 (by decide) (fun cq103 => ?_) (fun cq103 => ?_)
              · refine xr_iload_3 cx dX9_ask_110 ?_
                refine xr_iconst (v := 1) cx dX9_ask_111 (by decide) ?_
                refine xr_isub cx dX9_ask_112 ?_
                refine xr_iadd cx dX9_ask_113 ?_
                refine xr_dup2 cx dX9_ask_114 rfl rfl ?_
                refine xr_ialdN (j := 16) cx dX9_ask_115 g1 (by decide) (by decide) (by decide) ?_
                rw [su_same]
                refine xr_iconst (v := 1) cx dX9_ask_116 (by decide) ?_
                refine xr_iadd cx dX9_ask_117 ?_
                refine xr_iastN (j := 16) cx dX9_ask_118 g1 (by decide) (by decide) (by decide) ?_
                rw [su_same, su_su]
                refine xr_aload_0 cx dX9_ask_119 ?_
                refine xr_iload_3 cx dX9_ask_120 ?_
                refine xr_V1i (ν := mX9_acted) cx dX9_ask_121 rfl ml_X9_82 vf_X9_acted g0 (Nat.le_of_ble_eq_true rfl) (m_X9_acted hG (MRel_1 (MRel_2 hM)) (by rw [su_ne _ _ (by decide), su_same]) (fun τ r1 r2 => ?_))
                refine xr_iret cx cz dX9_ask_124 rfl ?_
                exact h τ (MAct_some r1 r2)
              · exact absurd (show (2 : Int32) ≤ 3 by decide) cq103
            · exact absurd cq71 (by decide)
          · have hb : bt (mPh a) s = true := by by_cases q : bt (mPh a) s = true; exact q; rw [if_neg q] at cq44; exact absurd rfl cq44
            rw [if_pos hb] at h
            refine xr_iconst (v := 2) cx dX9_ask_47 (by decide) ?_
            refine xr_goto (tgt := 68) cx dX9_ask_48 (by decide) ?_
            refine xr_istore_3 cx dX9_ask_68 ?_
            refine xr_iload_3 cx dX9_ask_69 ?_
            refine xr_iconst (v := 1) cx dX9_ask_70 (by decide) ?_
            refine xr_icmp_ne (tgt := 81) cx dX9_ask_71 (by decide) (fun cq71 => ?_) (fun cq71 => ?_)
            · refine xr_aload_0 cx dX9_ask_81 ?_
              refine xr_getR cx dX9_ask_82 fl_X9_7 g0 rfl ?_
              refine xr_sipush (v := 169) cx dX9_ask_85 (by decide) ?_
              refine xr_iload_1 cx dX9_ask_88 ?_
              refine xr_iadd cx dX9_ask_89 ?_
              refine xr_dup2 cx dX9_ask_90 rfl rfl ?_
              refine xr_ialdN (j := 169 + s) cx dX9_ask_91 g1 (nI_add 169 s) (by omega) (by decide) ?_
              rw [su_same]
              refine xr_iconst (v := 1) cx dX9_ask_92 (by decide) ?_
              refine xr_iadd cx dX9_ask_93 ?_
              refine xr_iastN (j := 169 + s) cx dX9_ask_94 g1 (nI_add 169 s) (by omega) (by decide) ?_
              rw [su_same, su_su]
              refine xr_aload_0 cx dX9_ask_95 ?_
              refine xr_getR cx dX9_ask_96 fl_X9_7 g0 rfl ?_
              refine xr_bipush (v := 14) cx dX9_ask_99 (by decide) ?_
              refine xr_iload_3 cx dX9_ask_101 ?_
              refine xr_iconst (v := 2) cx dX9_ask_102 (by decide) ?_
              refine xr_icmp_ge (tgt := 110) cx dX9_ask_103 (by decide) (fun cq103 => ?_) (fun cq103 => ?_)
              · refine xr_iload_3 cx dX9_ask_110 ?_
                refine xr_iconst (v := 1) cx dX9_ask_111 (by decide) ?_
                refine xr_isub cx dX9_ask_112 ?_
                refine xr_iadd cx dX9_ask_113 ?_
                refine xr_dup2 cx dX9_ask_114 rfl rfl ?_
                refine xr_ialdN (j := 15) cx dX9_ask_115 g1 (by decide) (by decide) (by decide) ?_
                rw [su_same]
                refine xr_iconst (v := 1) cx dX9_ask_116 (by decide) ?_
                refine xr_iadd cx dX9_ask_117 ?_
                refine xr_iastN (j := 15) cx dX9_ask_118 g1 (by decide) (by decide) (by decide) ?_
                rw [su_same, su_su]
                refine xr_aload_0 cx dX9_ask_119 ?_
                refine xr_iload_3 cx dX9_ask_120 ?_
                refine xr_V1i (ν := mX9_acted) cx dX9_ask_121 rfl ml_X9_82 vf_X9_acted g0 (Nat.le_of_ble_eq_true rfl) (m_X9_acted hG (MRel_1 (MRel_2 hM)) (by rw [su_ne _ _ (by decide), su_same]) (fun τ r1 r2 => ?_))
                refine xr_iret cx cz dX9_ask_124 rfl ?_
                exact h τ (MAct_some r1 r2)
              · exact absurd (show (2 : Int32) ≤ 2 by decide) cq103
            · exact absurd cq71 (by decide)
      | some p =>
        rw [mAsk_some hp] at h
        have hp6 := mPan_lt hp
        show XG _ _ 33 [_, _, some (.int (nI p)), _] _ _
        refine xr_iload_2 cx dX9_ask_33 ?_
        refine xr_bipush (v := -5) cx dX9_ask_34 (by decide) ?_
        refine xr_icmp_ne (tgt := 55) cx dX9_ask_36 (by decide) (fun cq36 => ?_) (fun cq36 => ?_)
        · refine xr_aload_0 cx dX9_ask_55 ?_
          refine xr_iload_2 cx dX9_ask_56 ?_
          refine xr_V1i (ν := mX9_isFront) cx dX9_ask_57 rfl ml_X9_59 vf_X9_isFront g0 (Nat.le_of_ble_eq_true rfl) (m_X9_isFront hG hp6 ?_)
          refine xr_if_eq (tgt := 67) cx dX9_ask_60 (by decide) (fun cq60 => ?_) (fun cq60 => ?_)
          · have hf : ¬ mFront a p = true := fun q => by rw [if_pos q] at cq60; exact absurd cq60 (by decide)
            rw [if_neg hf, mBring_upd (by omega) hp6 hf] at h
            refine xr_iconst (v := 1) cx dX9_ask_67 (by decide) ?_
            refine xr_istore_3 cx dX9_ask_68 ?_
            refine xr_iload_3 cx dX9_ask_69 ?_
            refine xr_iconst (v := 1) cx dX9_ask_70 (by decide) ?_
            refine xr_icmp_ne (tgt := 81) cx dX9_ask_71 (by decide) (fun cq71 => ?_) (fun cq71 => ?_)
            · exact absurd rfl cq71
            · refine xr_aload_0 cx dX9_ask_74 ?_
              refine xr_iload_2 cx dX9_ask_75 ?_
              refine xr_iconst (v := 2) cx dX9_ask_76 (by decide) ?_
              refine xr_idiv cx dX9_ask_77 (by decide) ?_
              rw [x_d2 (by omega)]
              refine xr_V1v (ν := mX9_pulls) cx dX9_ask_78 rfl ml_X9_62 vf_X9_pulls g0 (Nat.le_of_ble_eq_true rfl) (m_X9_pulls hG (show p / 2 < 3 by omega) ?_)
              refine xr_aload_0 cx dX9_ask_81 ?_
              refine xr_getR cx dX9_ask_82 fl_X9_7 g0 rfl ?_
              refine xr_sipush (v := 169) cx dX9_ask_85 (by decide) ?_
              refine xr_iload_1 cx dX9_ask_88 ?_
              refine xr_iadd cx dX9_ask_89 ?_
              refine xr_dup2 cx dX9_ask_90 rfl rfl ?_
              refine xr_ialdN (j := 169 + s) cx dX9_ask_91 g1 (nI_add 169 s) (by omega) (by decide) ?_
              rw [su_same]
              rw [mPull_ne (by omega) (by omega)]
              refine xr_iconst (v := 1) cx dX9_ask_92 (by decide) ?_
              refine xr_iadd cx dX9_ask_93 ?_
              refine xr_iastN (j := 169 + s) cx dX9_ask_94 g1 (nI_add 169 s) (by omega) (by decide) ?_
              rw [su_same, su_su]
              refine xr_aload_0 cx dX9_ask_95 ?_
              refine xr_getR cx dX9_ask_96 fl_X9_7 g0 rfl ?_
              refine xr_bipush (v := 14) cx dX9_ask_99 (by decide) ?_
              refine xr_iload_3 cx dX9_ask_101 ?_
              refine xr_iconst (v := 2) cx dX9_ask_102 (by decide) ?_
              refine xr_icmp_ge (tgt := 110) cx dX9_ask_103 (by decide) (fun cq103 => ?_) (fun cq103 => ?_)
              · exact absurd cq103 (by decide)
              · refine xr_iconst (v := 0) cx dX9_ask_106 (by decide) ?_
                refine xr_goto (tgt := 113) cx dX9_ask_107 (by decide) ?_
                refine xr_iadd cx dX9_ask_113 ?_
                refine xr_dup2 cx dX9_ask_114 rfl rfl ?_
                refine xr_ialdN (j := 14) cx dX9_ask_115 g1 (by decide) (by decide) (by decide) ?_
                rw [su_same]
                refine xr_iconst (v := 1) cx dX9_ask_116 (by decide) ?_
                refine xr_iadd cx dX9_ask_117 ?_
                refine xr_iastN (j := 14) cx dX9_ask_118 g1 (by decide) (by decide) (by decide) ?_
                rw [su_same, su_su]
                refine xr_aload_0 cx dX9_ask_119 ?_
                refine xr_iload_3 cx dX9_ask_120 ?_
                refine xr_V1i (ν := mX9_acted) cx dX9_ask_121 rfl ml_X9_82 vf_X9_acted g0 (Nat.le_of_ble_eq_true rfl) (m_X9_acted hG (MRel_1 (MRel_2 hM)) (by rw [su_ne _ _ (by decide), su_same]) (fun τ r1 r2 => ?_))
                refine xr_iret cx cz dX9_ask_124 rfl ?_
                exact h τ (MAct_some r1 r2)
          · have hf : mFront a p = true := by by_cases q : mFront a p = true; exact q; rw [if_neg q] at cq60; exact absurd rfl cq60
            rw [if_pos hf, show mBring (upd a (169 + s) (a (169 + s) + 1)) p = (upd a (169 + s) (a (169 + s) + 1)) from if_pos (by rw [mFront_updw (by omega) hp6]; exact hf)] at h
            refine xr_iconst (v := 0) cx dX9_ask_63 (by decide) ?_
            refine xr_goto (tgt := 68) cx dX9_ask_64 (by decide) ?_
            refine xr_istore_3 cx dX9_ask_68 ?_
            refine xr_iload_3 cx dX9_ask_69 ?_
            refine xr_iconst (v := 1) cx dX9_ask_70 (by decide) ?_
            refine xr_icmp_ne (tgt := 81) cx dX9_ask_71 (by decide) (fun cq71 => ?_) (fun cq71 => ?_)
            · refine xr_aload_0 cx dX9_ask_81 ?_
              refine xr_getR cx dX9_ask_82 fl_X9_7 g0 rfl ?_
              refine xr_sipush (v := 169) cx dX9_ask_85 (by decide) ?_
              refine xr_iload_1 cx dX9_ask_88 ?_
              refine xr_iadd cx dX9_ask_89 ?_
              refine xr_dup2 cx dX9_ask_90 rfl rfl ?_
              refine xr_ialdN (j := 169 + s) cx dX9_ask_91 g1 (nI_add 169 s) (by omega) (by decide) ?_
              rw [su_same]
              refine xr_iconst (v := 1) cx dX9_ask_92 (by decide) ?_
              refine xr_iadd cx dX9_ask_93 ?_
              refine xr_iastN (j := 169 + s) cx dX9_ask_94 g1 (nI_add 169 s) (by omega) (by decide) ?_
              rw [su_same, su_su]
              refine xr_aload_0 cx dX9_ask_95 ?_
              refine xr_getR cx dX9_ask_96 fl_X9_7 g0 rfl ?_
              refine xr_bipush (v := 14) cx dX9_ask_99 (by decide) ?_
              refine xr_iload_3 cx dX9_ask_101 ?_
              refine xr_iconst (v := 2) cx dX9_ask_102 (by decide) ?_
              refine xr_icmp_ge (tgt := 110) cx dX9_ask_103 (by decide) (fun cq103 => ?_) (fun cq103 => ?_)
              · exact absurd cq103 (by decide)
              · refine xr_iconst (v := 0) cx dX9_ask_106 (by decide) ?_
                refine xr_goto (tgt := 113) cx dX9_ask_107 (by decide) ?_
                refine xr_iadd cx dX9_ask_113 ?_
                refine xr_dup2 cx dX9_ask_114 rfl rfl ?_
                refine xr_ialdN (j := 14) cx dX9_ask_115 g1 (by decide) (by decide) (by decide) ?_
                rw [su_same]
                refine xr_iconst (v := 1) cx dX9_ask_116 (by decide) ?_
                refine xr_iadd cx dX9_ask_117 ?_
                refine xr_iastN (j := 14) cx dX9_ask_118 g1 (by decide) (by decide) (by decide) ?_
                rw [su_same, su_su]
                refine xr_aload_0 cx dX9_ask_119 ?_
                refine xr_iload_3 cx dX9_ask_120 ?_
                refine xr_V1i (ν := mX9_acted) cx dX9_ask_121 rfl ml_X9_82 vf_X9_acted g0 (Nat.le_of_ble_eq_true rfl) (m_X9_acted hG (MRel_1 (MRel_2 hM)) (by rw [su_ne _ _ (by decide), su_same]) (fun τ r1 r2 => ?_))
                refine xr_iret cx cz dX9_ask_124 rfl ?_
                exact h τ (MAct_some r1 r2)
            · exact absurd cq71 (by decide)
        · exact absurd cq36 (nI_nm5 (by omega))
    · rw [if_pos (Int32.not_lt.mp cq17)] at h
      refine xr_bipush (v := -4) cx dX9_ask_20 (by decide) ?_
      refine xr_iret cx cz dX9_ask_22 rfl ?_
      exact h _ (MAct_none hM)
  · have hb : x < 0 ∨ a 1 ≤ x := by by_cases q : x < 0 ∨ a 1 ≤ x; exact q; rw [if_neg q] at cq5; exact absurd cq5 (by decide)
    unfold oAsk at h
    rw [if_pos hb] at h
    refine xr_iconst (v := -1) cx dX9_ask_8 (by decide) ?_
    refine xr_iret cx cz dX9_ask_9 rfl ?_
    exact h _ (MAct_none hM)
theorem m_X9_undo_n {l : Launch} {E : XEnv} {d : Nat} {σ : XSt} {a : Nat → Int32} {Q : Int32 → XSt → Prop} (hG : xGl E) {sn : Option (Nat → Int32)} {t : Nat → Int32} {L : Nat} (hM : MRel σ a [] sn t L) (h : Q (-5) σ) : XMi l E d mX9_undo [.ref (xad E 0)] σ Q := by
  have g0 := hG.1
  have g1 := hG.2.1
  have g2 := hG.2.2.1
  have g3 := hG.2.2.2.1
  have g4 := hG.2.2.2.2.1
  have g5 := hG.2.2.2.2.2.1
  have g6 := hG.2.2.2.2.2.2.1
  have g7 := hG.2.2.2.2.2.2.2.1
  refine xr_entry (lv := [some (.ref (xad E 0)), none]) (by decide +kernel) (by simp [Value.category]) (Nat.le_of_ble_eq_true rfl) rfl (fun w hw cx cz => ?_)
  subst hw
  refine xr_aload_0 cx dX9_undo_0 ?_
  refine xr_getI cx dX9_undo_1 fl_X9_31 g0 rfl ?_
  rw [hM.2.1.1]
  refine xr_if_ne (tgt := 10) cx dX9_undo_4 (by decide) (fun cq4 => ?_) (fun cq4 => ?_)
  · exact absurd rfl cq4
  · refine xr_bipush (v := -5) cx dX9_undo_7 (by decide) ?_
    refine xr_iret cx cz dX9_undo_9 rfl ?_
    exact h
theorem lp_X9_undo {E : XEnv} {d m : Nat} {w : XO} {c : Nat → Int32} (hG : xGl E) (hm4 : m < 4) (cx : CX d w E mX9_undo) : ∀ n i {σ : XSt}, i + n = 230 → σ 0 3 = nI m → (∀ j, j < i → σ 1 j = c j) → (∀ j, j < 230 → σ 3 (230 * m + j) = c j) → (∀ τ, τ 1 = c → (∀ k, k ≠ 1 → τ k = σ k) → XG w E 56 [some (.ref (xad E 0)), some (.int (nI 230))] [] τ) → XG w E 22 [some (.ref (xad E 0)), some (.int (nI i))] [] σ := by
  have g0 := hG.1
  have g1 := hG.2.1
  have g2 := hG.2.2.1
  have g3 := hG.2.2.2.1
  have g4 := hG.2.2.2.2.1
  have g5 := hG.2.2.2.2.2.1
  have g6 := hG.2.2.2.2.2.2.1
  have g7 := hG.2.2.2.2.2.2.2.1
  intro n
  induction n with
  | zero =>
    intro i σ hi hm hj0 hc h
    obtain rfl : i = 230 := by omega
    refine xr_iload_1 cx dX9_undo_22 ?_
    refine xr_sipush (v := 230) cx dX9_undo_23 (by decide) ?_
    refine xr_icmp_ge (tgt := 56) cx dX9_undo_26 (by decide) (fun cq26 => ?_) (fun cq26 => ?_)
    · refine xr_row (k := 1) c g1 (fun j hj => (hj0 j hj).symm) ?_
      exact h _ (su_same _ _ _) (fun k hk => su_ne _ _ hk)
    · exact absurd (nI_le (a := 230) (b := 230) (by decide) (by decide)) cq26
  | succ n ih =>
    intro i σ hi hm hj0 hc h
    refine xr_iload_1 cx dX9_undo_22 ?_
    refine xr_sipush (v := 230) cx dX9_undo_23 (by decide) ?_
    refine xr_icmp_ge (tgt := 56) cx dX9_undo_26 (by decide) (fun cq26 => ?_) (fun cq26 => ?_)
    · exact absurd cq26 (nI_ge (a := i) (b := 230) (by omega) (by decide))
    · refine xr_aload_0 cx dX9_undo_29 ?_
      refine xr_getR cx dX9_undo_30 fl_X9_7 g0 rfl ?_
      refine xr_iload_1 cx dX9_undo_33 ?_
      refine xr_aload_0 cx dX9_undo_34 ?_
      refine xr_getR cx dX9_undo_35 fl_X9_16 g0 rfl ?_
      refine xr_sipush (v := 230) cx dX9_undo_38 (by decide) ?_
      refine xr_aload_0 cx dX9_undo_41 ?_
      refine xr_getI cx dX9_undo_42 fl_X9_31 g0 rfl ?_
      rw [hm]
      refine xr_imul cx dX9_undo_45 ?_
      refine xr_iload_1 cx dX9_undo_46 ?_
      refine xr_iadd cx dX9_undo_47 ?_
      refine xr_ialdN (j := 230 * m + i) cx dX9_undo_48 g3 (by rw [show (230 : Int32) * nI m = nI (230 * m) from pk_mul 230 m]; exact nI_add _ _) (by omega) (by decide) ?_
      refine xr_iastN (j := i) cx dX9_undo_49 g1 rfl (by omega) (by decide) ?_
      refine xr_iinc_1 (y := 1) cx dX9_undo_50 (by decide) ?_
      refine xr_goto (tgt := 22) cx dX9_undo_53 (by decide) ?_
      rw [nI_1]
      exact ih (i + 1) (by omega) (by rw [su_ne _ _ (by decide)]; exact hm) (fun j hj => by
        rw [su_same]
        by_cases e : j = i
        · subst e; rw [upd_same]; exact hc j (by omega)
        · rw [upd_ne _ _ e]; exact hj0 j (by omega)) (fun j hj => by rw [su_ne _ _ (by decide)]; exact hc j hj) (fun τ r1 r2 => h τ r1 (fun k hk => (r2 k hk).trans (su_ne _ _ hk)))
theorem m_X9_undo_s {l : Launch} {E : XEnv} {d : Nat} {σ : XSt} {a : Nat → Int32} {Q : Int32 → XSt → Prop} (hG : xGl E) {hl : List (Nat → Int32)} {sn : Option (Nat → Int32)} {t : Nat → Int32} {L : Nat} {c : Nat → Int32} (hM : MRel σ a (hl ++ [c]) sn t L) (h : ∀ τ, MRel τ c hl sn t L → (∀ k, 8 ≤ k → τ k = σ k) → Q (nI hl.length) τ) : XMi l E d mX9_undo [.ref (xad E 0)] σ Q := by
  have g0 := hG.1
  have g1 := hG.2.1
  have g2 := hG.2.2.1
  have g3 := hG.2.2.2.1
  have g4 := hG.2.2.2.2.1
  have g5 := hG.2.2.2.2.2.1
  have g6 := hG.2.2.2.2.2.2.1
  have g7 := hG.2.2.2.2.2.2.2.1
  have hlen : hl.length + 1 ≤ 4 := by have := hM.2.1.2.1; rw [List.length_append, List.length_singleton] at this; exact this
  refine xr_entry (lv := [some (.ref (xad E 0)), none]) (by decide +kernel) (by simp [Value.category]) (Nat.le_of_ble_eq_true rfl) rfl (fun w hw cx cz => ?_)
  subst hw
  refine xr_aload_0 cx dX9_undo_0 ?_
  refine xr_getI cx dX9_undo_1 fl_X9_31 g0 rfl ?_
  rw [hM.2.1.1]
  refine xr_if_ne (tgt := 10) cx dX9_undo_4 (by decide) (fun cq4 => ?_) (fun cq4 => ?_)
  · refine xr_aload_0 cx dX9_undo_10 ?_
    refine xr_dup cx dX9_undo_11 rfl ?_
    refine xr_getI cx dX9_undo_12 fl_X9_31 g0 rfl ?_
    refine xr_iconst (v := 1) cx dX9_undo_15 (by decide) ?_
    rw [hM.2.1.1, List.length_append, List.length_singleton]
    refine xr_isub cx dX9_undo_16 ?_
    rw [nI_pred]
    refine xr_putI cx dX9_undo_17 fp_X9_31 g0 rfl ?_
    refine xr_iconst (v := 0) cx dX9_undo_20 (by decide) ?_
    refine xr_istore_1 cx dX9_undo_21 ?_
    refine lp_X9_undo (m := hl.length) (c := c) hG (by omega) cx 230 0 rfl (by rw [su_same, upd_same]) (fun j hj => absurd hj (Nat.not_lt_zero j)) (fun j hj => by rw [su_ne _ _ (by decide)]; exact hM.2.1.2.2 hl.length c (by simp) j hj) (fun τ r1 r2 => ?_)
    refine xr_aload_0 cx dX9_undo_56 ?_
    refine xr_getI cx dX9_undo_57 fl_X9_31 g0 rfl ?_
    rw [r2 0 (by decide), su_same, upd_same]
    refine xr_iret cx cz dX9_undo_60 rfl ?_
    exact h τ ⟨r1, ⟨by rw [r2 0 (by decide), su_same, upd_same], by omega, fun i e hi j hj => by
      have hi2 := (List.getElem?_eq_some_iff.mp hi).1
      rw [r2 3 (by decide), su_ne _ _ (by decide)]
      exact hM.2.1.2.2 i e (by rw [List.getElem?_append_left hi2]; exact hi) j hj⟩, MS_fr hM.2.2.1 (by rw [r2 0 (by decide), su_same, upd_ne _ _ (by decide)]) (by rw [r2 4 (by decide), su_ne _ _ (by decide)]), MT_fr hM.2.2.2 (by rw [r2 0 (by decide), su_same, upd_ne _ _ (by decide)]) (by rw [r2 5 (by decide), su_ne _ _ (by decide)])⟩ (fun k hk => by rw [r2 k (by omega), su_ne _ _ (by omega)])
  · exact absurd cq4 (nI_ne0 (by simp) (by rw [List.length_append, List.length_singleton]; omega))
theorem lp_X9_keep {E : XEnv} {d : Nat} {w : XO} {c : Nat → Int32} (hG : xGl E) (cx : CX d w E mX9_keep) : ∀ n i {σ : XSt}, i + n = 230 → (∀ j, j < i → σ 4 j = c j) → (∀ j, j < 230 → σ 1 j = c j) → XG w E 27 [some (.ref (xad E 0)), some (.int (nI 230))] [] (su σ 4 c) → XG w E 2 [some (.ref (xad E 0)), some (.int (nI i))] [] σ := by
  have g0 := hG.1
  have g1 := hG.2.1
  have g2 := hG.2.2.1
  have g3 := hG.2.2.2.1
  have g4 := hG.2.2.2.2.1
  have g5 := hG.2.2.2.2.2.1
  have g6 := hG.2.2.2.2.2.2.1
  have g7 := hG.2.2.2.2.2.2.2.1
  intro n
  induction n with
  | zero =>
    intro i σ hi hj0 hc h
    obtain rfl : i = 230 := by omega
    refine xr_iload_1 cx dX9_keep_2 ?_
    refine xr_sipush (v := 230) cx dX9_keep_3 (by decide) ?_
    refine xr_icmp_ge (tgt := 27) cx dX9_keep_6 (by decide) (fun cq6 => ?_) (fun cq6 => ?_)
    · refine xr_row (k := 4) c g4 (fun j hj => (hj0 j hj).symm) ?_
      exact h
    · exact absurd (nI_le (a := 230) (b := 230) (by decide) (by decide)) cq6
  | succ n ih =>
    intro i σ hi hj0 hc h
    refine xr_iload_1 cx dX9_keep_2 ?_
    refine xr_sipush (v := 230) cx dX9_keep_3 (by decide) ?_
    refine xr_icmp_ge (tgt := 27) cx dX9_keep_6 (by decide) (fun cq6 => ?_) (fun cq6 => ?_)
    · exact absurd cq6 (nI_ge (a := i) (b := 230) (by omega) (by decide))
    · refine xr_aload_0 cx dX9_keep_9 ?_
      refine xr_getR cx dX9_keep_10 fl_X9_19 g0 rfl ?_
      refine xr_iload_1 cx dX9_keep_13 ?_
      refine xr_aload_0 cx dX9_keep_14 ?_
      refine xr_getR cx dX9_keep_15 fl_X9_7 g0 rfl ?_
      refine xr_iload_1 cx dX9_keep_18 ?_
      refine xr_ialdN (j := i) cx dX9_keep_19 g1 rfl (by omega) (by decide) ?_
      refine xr_iastN (j := i) cx dX9_keep_20 g4 rfl (by omega) (by decide) ?_
      refine xr_iinc_1 (y := 1) cx dX9_keep_21 (by decide) ?_
      refine xr_goto (tgt := 2) cx dX9_keep_24 (by decide) ?_
      rw [nI_1]
      exact ih (i + 1) (by omega) (fun j hj => by
        rw [su_same]
        by_cases e : j = i
        · subst e; rw [upd_same]; exact hc j (by omega)
        · rw [upd_ne _ _ e]; exact hj0 j (by omega)) (fun j hj => by rw [su_ne _ _ (by decide)]; exact hc j hj) (by rw [su_su]; exact h)
theorem lp_X9_restore {E : XEnv} {d : Nat} {w : XO} {c : Nat → Int32} (hG : xGl E) (cx : CX d w E mX9_restore) : ∀ n i {σ : XSt}, i + n = 230 → (∀ j, j < i → σ 1 j = c j) → (∀ j, j < 230 → σ 4 j = c j) → XG w E 41 [some (.ref (xad E 0)), some (.int (nI 230))] [] (su σ 1 c) → XG w E 16 [some (.ref (xad E 0)), some (.int (nI i))] [] σ := by
  have g0 := hG.1
  have g1 := hG.2.1
  have g2 := hG.2.2.1
  have g3 := hG.2.2.2.1
  have g4 := hG.2.2.2.2.1
  have g5 := hG.2.2.2.2.2.1
  have g6 := hG.2.2.2.2.2.2.1
  have g7 := hG.2.2.2.2.2.2.2.1
  intro n
  induction n with
  | zero =>
    intro i σ hi hj0 hc h
    obtain rfl : i = 230 := by omega
    refine xr_iload_1 cx dX9_restore_16 ?_
    refine xr_sipush (v := 230) cx dX9_restore_17 (by decide) ?_
    refine xr_icmp_ge (tgt := 41) cx dX9_restore_20 (by decide) (fun cq20 => ?_) (fun cq20 => ?_)
    · refine xr_row (k := 1) c g1 (fun j hj => (hj0 j hj).symm) ?_
      exact h
    · exact absurd (nI_le (a := 230) (b := 230) (by decide) (by decide)) cq20
  | succ n ih =>
    intro i σ hi hj0 hc h
    refine xr_iload_1 cx dX9_restore_16 ?_
    refine xr_sipush (v := 230) cx dX9_restore_17 (by decide) ?_
    refine xr_icmp_ge (tgt := 41) cx dX9_restore_20 (by decide) (fun cq20 => ?_) (fun cq20 => ?_)
    · exact absurd cq20 (nI_ge (a := i) (b := 230) (by omega) (by decide))
    · refine xr_aload_0 cx dX9_restore_23 ?_
      refine xr_getR cx dX9_restore_24 fl_X9_7 g0 rfl ?_
      refine xr_iload_1 cx dX9_restore_27 ?_
      refine xr_aload_0 cx dX9_restore_28 ?_
      refine xr_getR cx dX9_restore_29 fl_X9_19 g0 rfl ?_
      refine xr_iload_1 cx dX9_restore_32 ?_
      refine xr_ialdN (j := i) cx dX9_restore_33 g4 rfl (by omega) (by decide) ?_
      refine xr_iastN (j := i) cx dX9_restore_34 g1 rfl (by omega) (by decide) ?_
      refine xr_iinc_1 (y := 1) cx dX9_restore_35 (by decide) ?_
      refine xr_goto (tgt := 16) cx dX9_restore_38 (by decide) ?_
      rw [nI_1]
      exact ih (i + 1) (by omega) (fun j hj => by
        rw [su_same]
        by_cases e : j = i
        · subst e; rw [upd_same]; exact hc j (by omega)
        · rw [upd_ne _ _ e]; exact hj0 j (by omega)) (fun j hj => by rw [su_ne _ _ (by decide)]; exact hc j hj) (by rw [su_su]; exact h)
theorem m_X9_keep {l : Launch} {E : XEnv} {d : Nat} {σ : XSt} {a : Nat → Int32} {Q : Int32 → XSt → Prop} (hG : xGl E) {hl : List (Nat → Int32)} {sn : Option (Nat → Int32)} {t : Nat → Int32} {L : Nat} (hM : MRel σ a hl sn t L) (h : ∀ τ, MRel τ a hl (some a) t L → (∀ k, 8 ≤ k → τ k = σ k) → Q (a 2) τ) : XMi l E d mX9_keep [.ref (xad E 0)] σ Q := by
  have g0 := hG.1
  have g1 := hG.2.1
  have g2 := hG.2.2.1
  have g3 := hG.2.2.2.1
  have g4 := hG.2.2.2.2.1
  have g5 := hG.2.2.2.2.2.1
  have g6 := hG.2.2.2.2.2.2.1
  have g7 := hG.2.2.2.2.2.2.2.1
  refine xr_entry (lv := [some (.ref (xad E 0)), none]) (by decide +kernel) (by simp [Value.category]) (Nat.le_of_ble_eq_true rfl) rfl (fun w hw cx cz => ?_)
  subst hw
  refine xr_iconst (v := 0) cx dX9_keep_0 (by decide) ?_
  refine xr_istore_1 cx dX9_keep_1 ?_
  refine lp_X9_keep (c := a) hG cx 230 0 rfl (fun j hj => absurd hj (Nat.not_lt_zero j)) (fun j hj => by rw [hM.1]) ?_
  refine xr_aload_0 cx dX9_keep_27 ?_
  refine xr_iconst (v := 1) cx dX9_keep_28 (by decide) ?_
  refine xr_putI cx dX9_keep_29 fp_X9_135 g0 rfl ?_
  refine xr_aload_0 cx dX9_keep_32 ?_
  refine xr_getR cx dX9_keep_33 fl_X9_7 g0 rfl ?_
  refine xr_iconst (v := 2) cx dX9_keep_36 (by decide) ?_
  refine xr_ialdN (j := 2) cx dX9_keep_37 g1 rfl (by decide) (by decide) ?_
  rw [su_ne _ _ (by decide), su_ne _ _ (by decide), hM.1]
  refine xr_iret cx cz dX9_keep_38 rfl ?_
  exact h _ ⟨by rw [su_ne _ _ (by decide), su_ne _ _ (by decide)]; exact hM.1, MH_fr hM.2.1 (by rw [su_same, upd_ne _ _ (by decide), su_ne _ _ (by decide)]) (by rw [su_ne _ _ (by decide), su_ne _ _ (by decide)]), ⟨by rw [su_same, upd_same], fun j hj => by rw [su_ne _ _ (by decide), su_same]⟩, MT_fr hM.2.2.2 (by rw [su_same, upd_ne _ _ (by decide), su_ne _ _ (by decide)]) (by rw [su_ne _ _ (by decide), su_ne _ _ (by decide)])⟩ (fun k hk => by rw [su_ne _ _ (by omega), su_ne _ _ (by omega)])
theorem m_X9_restore_n {l : Launch} {E : XEnv} {d : Nat} {σ : XSt} {a : Nat → Int32} {Q : Int32 → XSt → Prop} (hG : xGl E) {hl : List (Nat → Int32)} {t : Nat → Int32} {L : Nat} (hM : MRel σ a hl none t L) (h : Q (-5) σ) : XMi l E (d + 1) mX9_restore [.ref (xad E 0)] σ Q := by
  have g0 := hG.1
  have g1 := hG.2.1
  have g2 := hG.2.2.1
  have g3 := hG.2.2.2.1
  have g4 := hG.2.2.2.2.1
  have g5 := hG.2.2.2.2.2.1
  have g6 := hG.2.2.2.2.2.2.1
  have g7 := hG.2.2.2.2.2.2.2.1
  refine xr_entry (lv := [some (.ref (xad E 0)), none]) (by decide +kernel) (by simp [Value.category]) (Nat.le_of_ble_eq_true rfl) rfl (fun w hw cx cz => ?_)
  subst hw
  refine xr_aload_0 cx dX9_restore_0 ?_
  refine xr_getI cx dX9_restore_1 fl_X9_135 g0 rfl ?_
  rw [show σ 0 5 = 0 from hM.2.2.1]
  refine xr_if_ne (tgt := 10) cx dX9_restore_4 (by decide) (fun cq4 => ?_) (fun cq4 => ?_)
  · exact absurd rfl cq4
  · refine xr_bipush (v := -5) cx dX9_restore_7 (by decide) ?_
    refine xr_iret cx cz dX9_restore_9 rfl ?_
    exact h
theorem m_X9_restore_s {l : Launch} {E : XEnv} {d : Nat} {σ : XSt} {a : Nat → Int32} {Q : Int32 → XSt → Prop} (hG : xGl E) {hl : List (Nat → Int32)} {t : Nat → Int32} {L : Nat} {c : Nat → Int32} (hM : MRel σ a hl (some c) t L) (h : ∀ τ, MAct σ τ a hl (some c) t L (some c) → Q (c 2) τ) : XMi l E (d + 1) mX9_restore [.ref (xad E 0)] σ Q := by
  have g0 := hG.1
  have g1 := hG.2.1
  have g2 := hG.2.2.1
  have g3 := hG.2.2.2.1
  have g4 := hG.2.2.2.2.1
  have g5 := hG.2.2.2.2.2.1
  have g6 := hG.2.2.2.2.2.2.1
  have g7 := hG.2.2.2.2.2.2.2.1
  refine xr_entry (lv := [some (.ref (xad E 0)), none]) (by decide +kernel) (by simp [Value.category]) (Nat.le_of_ble_eq_true rfl) rfl (fun w hw cx cz => ?_)
  subst hw
  refine xr_aload_0 cx dX9_restore_0 ?_
  refine xr_getI cx dX9_restore_1 fl_X9_135 g0 rfl ?_
  rw [hM.2.2.1.1]
  refine xr_if_ne (tgt := 10) cx dX9_restore_4 (by decide) (fun cq4 => ?_) (fun cq4 => ?_)
  · refine xr_aload_0 cx dX9_restore_10 ?_
    refine xr_V0v (ν := mX9_remember) cx dX9_restore_11 rfl ml_X9_79 vf_X9_remember g0 (Nat.le_of_ble_eq_true rfl) (m_X9_remember hG ?_)
    rw [hM.1]
    refine xr_iconst (v := 0) cx dX9_restore_14 (by decide) ?_
    refine xr_istore_1 cx dX9_restore_15 ?_
    refine lp_X9_restore (c := c) hG cx 230 0 rfl (fun j hj => absurd hj (Nat.not_lt_zero j)) (fun j hj => by rw [su_ne _ _ (by decide)]; exact hM.2.2.1.2 j hj) ?_
    refine xr_aload_0 cx dX9_restore_41 ?_
    refine xr_aload_0 cx dX9_restore_42 ?_
    refine xr_getR cx dX9_restore_43 fl_X9_7 g0 rfl ?_
    refine xr_iconst (v := 2) cx dX9_restore_46 (by decide) ?_
    refine xr_ialdN (j := 2) cx dX9_restore_47 g1 rfl (by decide) (by decide) ?_
    rw [su_same]
    refine xr_V1i (ν := mX9_acted) cx dX9_restore_48 rfl ml_X9_82 vf_X9_acted g0 (Nat.le_of_ble_eq_true rfl) (m_X9_acted hG (MRel_1 (MRel_2 hM)) (by rw [su_ne _ _ (by decide), su_same]) (fun τ r1 r2 => ?_))
    refine xr_iret cx cz dX9_restore_51 rfl ?_
    exact h τ (MAct_some r1 r2)
  · exact absurd cq4 (by decide)
theorem m_X9_panel {l : Launch} {E : XEnv} {d : Nat} {σ : XSt} {a : Nat → Int32} {Q : Int32 → XSt → Prop} (hG : xGl E) {x y : Int32} {hl : List (Nat → Int32)} {sn : Option (Nat → Int32)} {t : Nat → Int32} {L : Nat} (hM : MRel σ a hl sn t L) (hI : xInv a)  (h : Q (oPanel a x y) σ) : XMi l E (d + 2) mX9_panel [.ref (xad E 0), .int x, .int y] σ Q := by
  have g0 := hG.1
  have g1 := hG.2.1
  have g2 := hG.2.2.1
  have g3 := hG.2.2.2.1
  have g4 := hG.2.2.2.2.1
  have g5 := hG.2.2.2.2.2.1
  have g6 := hG.2.2.2.2.2.2.1
  have g7 := hG.2.2.2.2.2.2.2.1
  have hS : su σ 1 a = σ := by rw [← hM.1]; exact su_id σ 1
  obtain ⟨hx, hO, hN, hD, hW, hE, hA⟩ := id hI
  obtain ⟨ix1, ix2, ix3, ix4, iy1, iy2, iy3, iy4⟩ := id hx
  rw [← hS] at h ⊢
  refine xr_entry (lv := [some (.ref (xad E 0)), some (.int x), some (.int y)]) (by decide +kernel) (by simp [Value.category]) (Nat.le_of_ble_eq_true rfl) rfl (fun w hw cx cz => ?_)
  subst hw
  refine xr_iload_1 cx dX9_panel_0 ?_
  refine xr_S1i (ν := mX9_isPanel) cx dX9_panel_1 rfl ml_X9_98 sf_X9_isPanel (Nat.le_of_ble_eq_true rfl) (m_X9_isPanel ?_)
  refine xr_if_ne (tgt := 9) cx dX9_panel_4 (by decide) (fun cq4 => ?_) (fun cq4 => ?_)
  · have hpn := x_mpanel cq4
    obtain ⟨p, hp6, rfl, hpn2, hpc⟩ := hpn
    unfold oPanel at h
    rw [if_neg hpn2, hpc] at h
    refine xr_iload_2 cx dX9_panel_9 ?_
    refine xr_tsw (n := 6) (tgtd := 119) cx dX9_panel_10 (by decide) (by decide) (by decide) (xn_6 (fun cq10 => ⟨38, 48, by decide, by decide, ?_⟩) (fun cq10 => ⟨48, 58, by decide, by decide, ?_⟩) (fun cq10 => ⟨54, 64, by decide, by decide, ?_⟩) (fun cq10 => ⟨68, 78, by decide, by decide, ?_⟩) (fun cq10 => ⟨82, 92, by decide, by decide, ?_⟩) (fun cq10 => ⟨92, 102, by decide, by decide, ?_⟩)) (fun cq10 => ?_)
    · rw [xsel_in cq10 (j := 0) rfl (by simp)] at h
      refine xr_aload_0 cx dX9_panel_48 ?_
      refine xr_getR cx dX9_panel_49 fl_X9_7 g0 rfl ?_
      refine xr_bipush (v := 17) cx dX9_panel_52 (by decide) ?_
      refine xr_iload_1 cx dX9_panel_54 ?_
      refine xr_iadd cx dX9_panel_55 ?_
      refine xr_ialdN (j := 17 + p) cx dX9_panel_56 g1 (nI_add 17 p) (by omega) (by decide) ?_
      rw [su_same]
      refine xr_iret cx cz dX9_panel_57 rfl ?_
      exact h
    · rw [xsel_in cq10 (j := 1) rfl (by simp)] at h
      refine xr_aload_0 cx dX9_panel_58 ?_
      refine xr_iload_1 cx dX9_panel_59 ?_
      refine xr_V1i (ν := mX9_linesOn) cx dX9_panel_60 rfl ml_X9_45 vf_X9_linesOn g0 (Nat.le_of_ble_eq_true rfl) (m_X9_linesOn hG hp6 hx ?_)
      refine xr_iret cx cz dX9_panel_63 rfl ?_
      exact h
    · rw [xsel_in cq10 (j := 2) rfl (by simp)] at h
      refine xr_aload_0 cx dX9_panel_64 ?_
      refine xr_iload_1 cx dX9_panel_65 ?_
      refine xr_V1i (ν := mX9_isFront) cx dX9_panel_66 rfl ml_X9_59 vf_X9_isFront g0 (Nat.le_of_ble_eq_true rfl) (m_X9_isFront hG hp6 ?_)
      refine xr_if_eq (tgt := 76) cx dX9_panel_69 (by decide) (fun cq69 => ?_) (fun cq69 => ?_)
      · rw [if_neg (fun q => by rw [if_pos q] at cq69; exact absurd cq69 (by decide))] at h
        refine xr_iconst (v := 0) cx dX9_panel_76 (by decide) ?_
        refine xr_iret cx cz dX9_panel_77 rfl ?_
        exact h
      · rw [if_pos (by by_cases q : mFront a p = true; exact q; rw [if_neg q] at cq69; exact absurd rfl cq69)] at h
        refine xr_iconst (v := 1) cx dX9_panel_72 (by decide) ?_
        refine xr_goto (tgt := 77) cx dX9_panel_73 (by decide) ?_
        refine xr_iret cx cz dX9_panel_77 rfl ?_
        exact h
    · rw [xsel_in cq10 (j := 3) rfl (by simp)] at h
      refine xr_aload_0 cx dX9_panel_78 ?_
      refine xr_iload_1 cx dX9_panel_79 ?_
      refine xr_V1i (ν := mX9_isPinned) cx dX9_panel_80 rfl ml_X9_49 vf_X9_isPinned g0 (Nat.le_of_ble_eq_true rfl) (m_X9_isPinned hG (by omega) ?_)
      refine xr_if_eq (tgt := 90) cx dX9_panel_83 (by decide) (fun cq83 => ?_) (fun cq83 => ?_)
      · rw [if_neg (fun q => by rw [if_pos q] at cq83; exact absurd cq83 (by decide))] at h
        refine xr_iconst (v := 0) cx dX9_panel_90 (by decide) ?_
        refine xr_iret cx cz dX9_panel_91 rfl ?_
        exact h
      · rw [if_pos (by by_cases q : bt (a 7) p = true; exact q; rw [if_neg q] at cq83; exact absurd rfl cq83)] at h
        refine xr_iconst (v := 1) cx dX9_panel_86 (by decide) ?_
        refine xr_goto (tgt := 91) cx dX9_panel_87 (by decide) ?_
        refine xr_iret cx cz dX9_panel_91 rfl ?_
        exact h
    · rw [xsel_in cq10 (j := 4) rfl (by simp)] at h
      refine xr_aload_0 cx dX9_panel_92 ?_
      refine xr_getR cx dX9_panel_93 fl_X9_7 g0 rfl ?_
      refine xr_bipush (v := 23) cx dX9_panel_96 (by decide) ?_
      refine xr_iload_1 cx dX9_panel_98 ?_
      refine xr_iadd cx dX9_panel_99 ?_
      refine xr_ialdN (j := 23 + p) cx dX9_panel_100 g1 (nI_add 23 p) (by omega) (by decide) ?_
      rw [su_same]
      refine xr_iret cx cz dX9_panel_101 rfl ?_
      exact h
    · rw [xsel_in cq10 (j := 5) rfl (by simp)] at h
      refine xr_aload_0 cx dX9_panel_102 ?_
      refine xr_getR cx dX9_panel_103 fl_X9_7 g0 rfl ?_
      refine xr_bipush (v := 17) cx dX9_panel_106 (by decide) ?_
      refine xr_iload_1 cx dX9_panel_108 ?_
      refine xr_iadd cx dX9_panel_109 ?_
      refine xr_ialdN (j := 17 + p) cx dX9_panel_110 g1 (nI_add 17 p) (by omega) (by decide) ?_
      rw [su_same]
      refine xr_aload_0 cx dX9_panel_111 ?_
      refine xr_V0i (ν := mX9_onPhotos) cx dX9_panel_112 rfl ml_X9_41 vf_X9_onPhotos g0 (Nat.le_of_ble_eq_true rfl) (m_X9_onPhotos hG hx ?_)
      refine xr_iconst (v := -1) cx dX9_panel_115 (by decide) ?_
      refine xr_ixor cx dX9_panel_116 ?_
      refine xr_iand cx dX9_panel_117 ?_
      refine xr_iret cx cz dX9_panel_118 rfl ?_
      exact h
    · rw [xsel_out (n := 6) rfl (by decide) cq10] at h
      refine xr_bipush (v := -2) cx dX9_panel_119 (by decide) ?_
      refine xr_iret cx cz dX9_panel_121 rfl ?_
      exact h
  · unfold oPanel at h
    rw [if_pos (x_mnpanel cq4)] at h
    refine xr_iconst (v := -1) cx dX9_panel_7 (by decide) ?_
    refine xr_iret cx cz dX9_panel_8 rfl ?_
    exact h
theorem m_X9_step {l : Launch} {E : XEnv} {d : Nat} {σ : XSt} {a : Nat → Int32} {Q : Int32 → XSt → Prop} (hG : xGl E) {x y : Int32} {hl : List (Nat → Int32)} {sn : Option (Nat → Int32)} {t : Nat → Int32} {L : Nat} (hM : MRel σ a hl sn t L) (hI : xInv a)  (h : Q (oStep a x y) σ) : XMi l E (d + 2) mX9_step [.ref (xad E 0), .int x, .int y] σ Q := by
  have g0 := hG.1
  have g1 := hG.2.1
  have g2 := hG.2.2.1
  have g3 := hG.2.2.2.1
  have g4 := hG.2.2.2.2.1
  have g5 := hG.2.2.2.2.2.1
  have g6 := hG.2.2.2.2.2.2.1
  have g7 := hG.2.2.2.2.2.2.2.1
  have hS : su σ 1 a = σ := by rw [← hM.1]; exact su_id σ 1
  obtain ⟨hx, hO, hN, hD, hW, hE, hA⟩ := id hI
  obtain ⟨ix1, ix2, ix3, ix4, iy1, iy2, iy3, iy4⟩ := id hx
  rw [← hS] at h ⊢
  refine xr_entry (lv := [some (.ref (xad E 0)), some (.int x), some (.int y)]) (by decide +kernel) (by simp [Value.category]) (Nat.le_of_ble_eq_true rfl) rfl (fun w hw cx cz => ?_)
  subst hw
  refine xr_aload_0 cx dX9_step_0 ?_
  refine xr_iload_1 cx dX9_step_1 ?_
  refine xr_V1i (ν := mX9_isStep) cx dX9_step_2 rfl ml_X9_104 vf_X9_isStep g0 (Nat.le_of_ble_eq_true rfl) (m_X9_isStep hG hx ?_)
  refine xr_if_ne (tgt := 10) cx dX9_step_5 (by decide) (fun cq5 => ?_) (fun cq5 => ?_)
  · have hb : ¬ (x < 0 ∨ a 1 ≤ x) := fun q => by rw [if_pos q] at cq5; exact cq5 rfl
    unfold oStep at h
    rw [if_neg hb] at h
    obtain ⟨s, hs, rfl⟩ := nI_of (fun q => hb (Or.inl q))
    have hsn : s < mSt a := by
      have := Int32.not_le.mp (fun q => hb (Or.inr q))
      rw [ix1] at this
      exact (nI_ltI hs (by omega)).mp this
    rw [nI_clamp hs] at h
    refine xr_iload_2 cx dX9_step_10 ?_
    refine xr_tsw (n := 7) (tgtd := 131) cx dX9_step_11 (by decide) (by decide) (by decide) (xn_7 (fun cq11 => ⟨41, 52, by decide, by decide, ?_⟩) (fun cq11 => ⟨51, 62, by decide, by decide, ?_⟩) (fun cq11 => ⟨62, 73, by decide, by decide, ?_⟩) (fun cq11 => ⟨78, 89, by decide, by decide, ?_⟩) (fun cq11 => ⟨84, 95, by decide, by decide, ?_⟩) (fun cq11 => ⟨98, 109, by decide, by decide, ?_⟩) (fun cq11 => ⟨109, 120, by decide, by decide, ?_⟩)) (fun cq11 => ?_)
    · rw [xsel_in cq11 (j := 0) rfl (by simp)] at h
      refine xr_aload_0 cx dX9_step_52 ?_
      refine xr_getR cx dX9_step_53 fl_X9_7 g0 rfl ?_
      refine xr_bipush (v := 109) cx dX9_step_56 (by decide) ?_
      refine xr_iload_1 cx dX9_step_58 ?_
      refine xr_iadd cx dX9_step_59 ?_
      refine xr_ialdN (j := 109 + s) cx dX9_step_60 g1 (nI_add 109 s) (by omega) (by decide) ?_
      rw [su_same]
      refine xr_iret cx cz dX9_step_61 rfl ?_
      exact h
    · rw [xsel_in cq11 (j := 1) rfl (by simp)] at h
      refine xr_aload_0 cx dX9_step_62 ?_
      refine xr_getR cx dX9_step_63 fl_X9_7 g0 rfl ?_
      refine xr_sipush (v := 139) cx dX9_step_66 (by decide) ?_
      refine xr_iload_1 cx dX9_step_69 ?_
      refine xr_iadd cx dX9_step_70 ?_
      refine xr_ialdN (j := 139 + s) cx dX9_step_71 g1 (nI_add 139 s) (by omega) (by decide) ?_
      rw [su_same]
      refine xr_iret cx cz dX9_step_72 rfl ?_
      exact h
    · rw [xsel_in cq11 (j := 2) rfl (by simp)] at h
      refine xr_iload_1 cx dX9_step_73 ?_
      refine xr_aload_0 cx dX9_step_74 ?_
      refine xr_getR cx dX9_step_75 fl_X9_7 g0 rfl ?_
      refine xr_iconst (v := 2) cx dX9_step_78 (by decide) ?_
      refine xr_ialdN (j := 2) cx dX9_step_79 g1 rfl (by decide) (by decide) ?_
      rw [su_same]
      refine xr_icmp_ge (tgt := 87) cx dX9_step_80 (by decide) (fun cq80 => ?_) (fun cq80 => ?_)
      · rw [if_neg (fun q => Int32.not_lt.mpr cq80 q)] at h
        refine xr_iconst (v := 0) cx dX9_step_87 (by decide) ?_
        refine xr_iret cx cz dX9_step_88 rfl ?_
        exact h
      · rw [if_pos (Int32.not_le.mp cq80)] at h
        refine xr_iconst (v := 1) cx dX9_step_83 (by decide) ?_
        refine xr_goto (tgt := 88) cx dX9_step_84 (by decide) ?_
        refine xr_iret cx cz dX9_step_88 rfl ?_
        exact h
    · rw [xsel_in cq11 (j := 3) rfl (by simp)] at h
      refine xr_aload_0 cx dX9_step_89 ?_
      refine xr_iload_1 cx dX9_step_90 ?_
      refine xr_V1i (ν := mX9_panelOf) cx dX9_step_91 rfl ml_X9_53 vf_X9_panelOf g0 (Nat.le_of_ble_eq_true rfl) (m_X9_panelOf hG (show s < 30 by omega) ?_)
      refine xr_iret cx cz dX9_step_94 rfl ?_
      exact h
    · rw [xsel_in cq11 (j := 4) rfl (by simp)] at h
      refine xr_aload_0 cx dX9_step_95 ?_
      refine xr_iload_1 cx dX9_step_96 ?_
      refine xr_V1i (ν := mX9_isOnPhoto) cx dX9_step_97 rfl ml_X9_56 vf_X9_isOnPhoto g0 (Nat.le_of_ble_eq_true rfl) (m_X9_isOnPhoto hG (show s < 30 by omega) hx ?_)
      refine xr_if_eq (tgt := 107) cx dX9_step_100 (by decide) (fun cq100 => ?_) (fun cq100 => ?_)
      · rw [if_neg (fun q => by rw [if_pos q] at cq100; exact absurd cq100 (by decide))] at h
        refine xr_iconst (v := 0) cx dX9_step_107 (by decide) ?_
        refine xr_iret cx cz dX9_step_108 rfl ?_
        exact h
      · rw [if_pos (by by_cases q : bt (mPh a) s = true; exact q; rw [if_neg q] at cq100; exact absurd rfl cq100)] at h
        refine xr_iconst (v := 1) cx dX9_step_103 (by decide) ?_
        refine xr_goto (tgt := 108) cx dX9_step_104 (by decide) ?_
        refine xr_iret cx cz dX9_step_108 rfl ?_
        exact h
    · rw [xsel_in cq11 (j := 5) rfl (by simp)] at h
      refine xr_aload_0 cx dX9_step_109 ?_
      refine xr_getR cx dX9_step_110 fl_X9_7 g0 rfl ?_
      refine xr_sipush (v := 169) cx dX9_step_113 (by decide) ?_
      refine xr_iload_1 cx dX9_step_116 ?_
      refine xr_iadd cx dX9_step_117 ?_
      refine xr_ialdN (j := 169 + s) cx dX9_step_118 g1 (nI_add 169 s) (by omega) (by decide) ?_
      rw [su_same]
      refine xr_iret cx cz dX9_step_119 rfl ?_
      exact h
    · rw [xsel_in cq11 (j := 6) rfl (by simp)] at h
      refine xr_aload_0 cx dX9_step_120 ?_
      refine xr_getR cx dX9_step_121 fl_X9_7 g0 rfl ?_
      refine xr_sipush (v := 199) cx dX9_step_124 (by decide) ?_
      refine xr_iload_1 cx dX9_step_127 ?_
      refine xr_iadd cx dX9_step_128 ?_
      refine xr_ialdN (j := 199 + s) cx dX9_step_129 g1 (nI_add 199 s) (by omega) (by decide) ?_
      rw [su_same]
      refine xr_iret cx cz dX9_step_130 rfl ?_
      exact h
    · rw [xsel_out (n := 7) rfl (by decide) cq11] at h
      refine xr_bipush (v := -2) cx dX9_step_131 (by decide) ?_
      refine xr_iret cx cz dX9_step_133 rfl ?_
      exact h
  · have hb : x < 0 ∨ a 1 ≤ x := by by_cases q : x < 0 ∨ a 1 ≤ x; exact q; rw [if_neg q] at cq5; exact absurd cq5 (by decide)
    unfold oStep at h
    rw [if_pos hb] at h
    refine xr_iconst (v := -1) cx dX9_step_8 (by decide) ?_
    refine xr_iret cx cz dX9_step_9 rfl ?_
    exact h
theorem m_X9_photoOf {l : Launch} {E : XEnv} {d : Nat} {σ : XSt} {a : Nat → Int32} {Q : Int32 → XSt → Prop} (hG : xGl E) {x y : Int32} {hl : List (Nat → Int32)} {sn : Option (Nat → Int32)} {t : Nat → Int32} {L : Nat} (hM : MRel σ a hl sn t L) (hI : xInv a)  (h : Q (oPhotoOf a x y) σ) : XMi l E (d + 1) mX9_photoOf [.ref (xad E 0), .int x, .int y] σ Q := by
  have g0 := hG.1
  have g1 := hG.2.1
  have g2 := hG.2.2.1
  have g3 := hG.2.2.2.1
  have g4 := hG.2.2.2.2.1
  have g5 := hG.2.2.2.2.2.1
  have g6 := hG.2.2.2.2.2.2.1
  have g7 := hG.2.2.2.2.2.2.2.1
  have hS : su σ 1 a = σ := by rw [← hM.1]; exact su_id σ 1
  obtain ⟨hx, hO, hN, hD, hW, hE, hA⟩ := id hI
  obtain ⟨ix1, ix2, ix3, ix4, iy1, iy2, iy3, iy4⟩ := id hx
  rw [← hS] at h ⊢
  refine xr_entry (lv := [some (.ref (xad E 0)), some (.int x), some (.int y)]) (by decide +kernel) (by simp [Value.category]) (Nat.le_of_ble_eq_true rfl) rfl (fun w hw cx cz => ?_)
  subst hw
  refine xr_iload_1 cx dX9_photoOf_0 ?_
  refine xr_if_lt (tgt := 14) cx dX9_photoOf_1 (by decide) (fun cq1 => ?_) (fun cq1 => ?_)
  · unfold oPhotoOf at h
    rw [if_pos (Or.inl cq1)] at h
    refine xr_bipush (v := -2) cx dX9_photoOf_14 (by decide) ?_
    refine xr_iret cx cz dX9_photoOf_16 rfl ?_
    exact h
  · refine xr_iload_2 cx dX9_photoOf_4 ?_
    refine xr_i2l cx dX9_photoOf_5 ?_
    refine xr_lconst (v := 0) cx dX9_photoOf_6 (by decide) ?_
    refine xr_lconst (v := 1) cx dX9_photoOf_7 (by decide) ?_
    refine xr_S3i (ν := mX9_in) cx dX9_photoOf_8 rfl ml_X9_37 sf_X9_in (Nat.le_of_ble_eq_true rfl) (m_X9_in ?_)
    refine xr_if_ne (tgt := 17) cx dX9_photoOf_11 (by decide) (fun cq11 => ?_) (fun cq11 => ?_)
    · have hb : ¬ (y.toInt64 < 0 ∨ (1 : Int64) < y.toInt64) := fun q => by rw [if_pos q] at cq11; exact cq11 rfl
      have hb2 : ¬ (y < 0 ∨ 1 < y) := fun q => hb ((x64_in (a := 0) (b := 1)).mpr q)
      unfold oPhotoOf at h
      rw [if_neg (fun q => Or.elim q cq1 hb2)] at h
      refine xr_iload_1 cx dX9_photoOf_17 ?_
      refine xr_aload_0 cx dX9_photoOf_18 ?_
      refine xr_getR cx dX9_photoOf_19 fl_X9_7 g0 rfl ?_
      refine xr_bipush (v := 10) cx dX9_photoOf_22 (by decide) ?_
      refine xr_ialdN (j := 10) cx dX9_photoOf_24 g1 rfl (by decide) (by decide) ?_
      rw [su_same]
      refine xr_icmp_lt (tgt := 33) cx dX9_photoOf_25 (by decide) (fun cq25 => ?_) (fun cq25 => ?_)
      · rw [if_neg (fun q => Int32.not_lt.mpr q cq25)] at h
        obtain ⟨j, hj, rfl⟩ := nI_of cq1
        have hj40 : j < 40 := by have := (nI_ltI hj (by omega)).mp (show nI j < nI (mTk a) by rw [← ix4]; exact cq25); omega
        rw [nI_clamp hj] at h
        refine xr_aload_0 cx dX9_photoOf_33 ?_
        refine xr_getR cx dX9_photoOf_34 fl_X9_7 g0 rfl ?_
        refine xr_iload_2 cx dX9_photoOf_37 ?_
        refine xr_if_ne (tgt := 46) cx dX9_photoOf_38 (by decide) (fun cq38 => ?_) (fun cq38 => ?_)
        · rw [if_neg cq38] at h
          refine xr_bipush (v := 69) cx dX9_photoOf_46 (by decide) ?_
          refine xr_iload_1 cx dX9_photoOf_48 ?_
          refine xr_iadd cx dX9_photoOf_49 ?_
          refine xr_ialdN (j := 69 + j) cx dX9_photoOf_50 g1 (nI_add 69 j) (by omega) (by decide) ?_
          rw [su_same]
          refine xr_iret cx cz dX9_photoOf_51 rfl ?_
          exact h
        · rw [if_pos cq38] at h
          refine xr_bipush (v := 29) cx dX9_photoOf_41 (by decide) ?_
          refine xr_goto (tgt := 48) cx dX9_photoOf_43 (by decide) ?_
          refine xr_iload_1 cx dX9_photoOf_48 ?_
          refine xr_iadd cx dX9_photoOf_49 ?_
          refine xr_ialdN (j := 29 + j) cx dX9_photoOf_50 g1 (nI_add 29 j) (by omega) (by decide) ?_
          rw [su_same]
          refine xr_iret cx cz dX9_photoOf_51 rfl ?_
          exact h
      · rw [if_pos (Int32.not_lt.mp cq25)] at h
        refine xr_bipush (v := -5) cx dX9_photoOf_28 (by decide) ?_
        refine xr_goto (tgt := 51) cx dX9_photoOf_30 (by decide) ?_
        refine xr_iret cx cz dX9_photoOf_51 rfl ?_
        exact h
    · have hb : y.toInt64 < 0 ∨ (1 : Int64) < y.toInt64 := by by_cases q : y.toInt64 < 0 ∨ (1 : Int64) < y.toInt64; exact q; rw [if_neg q] at cq11; exact absurd cq11 (by decide)
      unfold oPhotoOf at h
      rw [if_pos (Or.inr ((x64_in (a := 0) (b := 1)).mp hb))] at h
      refine xr_bipush (v := -2) cx dX9_photoOf_14 (by decide) ?_
      refine xr_iret cx cz dX9_photoOf_16 rfl ?_
      exact h
theorem lp_X9_lost {E : XEnv} {d : Nat} {σ : XSt} {a : Nat → Int32} {Q : Int32 → XSt → Prop} {w : XO} (hG : xGl E) (cx : CX (d + 1) w E mX9_lostSteps) (cz : CZi w E Q) : ∀ n i (acc : Int32), i + n = 6 → Q (a 2 - nI (popC (xit (fun p acc => acc ||| a (17 + p)) n i acc))) (su σ 1 a) → XG w E 7 [some (.ref (xad E 0)), some (.int acc), some (.int (nI i))] [] (su σ 1 a) := by
  have g0 := hG.1
  have g1 := hG.2.1
  have g2 := hG.2.2.1
  have g3 := hG.2.2.2.1
  have g4 := hG.2.2.2.2.1
  have g5 := hG.2.2.2.2.2.1
  have g6 := hG.2.2.2.2.2.2.1
  have g7 := hG.2.2.2.2.2.2.2.1
  intro n
  induction n with
  | zero =>
    intro i acc hi h
    obtain rfl : i = 6 := by omega
    refine xr_iload_2 cx dX9_lostSteps_7 ?_
    refine xr_bipush (v := 6) cx dX9_lostSteps_8 (by decide) ?_
    refine xr_icmp_ge (tgt := 31) cx dX9_lostSteps_10 (by decide) (fun cq10 => ?_) (fun cq10 => ?_)
    · refine xr_aload_0 cx dX9_lostSteps_31 ?_
      refine xr_getR cx dX9_lostSteps_32 fl_X9_7 g0 rfl ?_
      refine xr_iconst (v := 2) cx dX9_lostSteps_35 (by decide) ?_
      refine xr_ialdN (j := 2) cx dX9_lostSteps_36 g1 rfl (by decide) (by decide) ?_
      rw [su_same]
      refine xr_iload_1 cx dX9_lostSteps_37 ?_
      refine xr_S1i (ν := mX9_bits) cx dX9_lostSteps_38 rfl ml_X9_101 sf_X9_bits (Nat.le_of_ble_eq_true rfl) (m_X9_bits ?_)
      refine xr_isub cx dX9_lostSteps_41 ?_
      refine xr_iret cx cz dX9_lostSteps_42 rfl ?_
      exact h
    · exact absurd (nI_le (a := 6) (b := 6) (by decide) (by decide)) cq10
  | succ n ih =>
    intro i acc hi h
    refine xr_iload_2 cx dX9_lostSteps_7 ?_
    refine xr_bipush (v := 6) cx dX9_lostSteps_8 (by decide) ?_
    refine xr_icmp_ge (tgt := 31) cx dX9_lostSteps_10 (by decide) (fun cq10 => ?_) (fun cq10 => ?_)
    · exact absurd cq10 (nI_ge (a := i) (b := 6) (by omega) (by decide))
    · refine xr_iload_1 cx dX9_lostSteps_13 ?_
      refine xr_aload_0 cx dX9_lostSteps_14 ?_
      refine xr_getR cx dX9_lostSteps_15 fl_X9_7 g0 rfl ?_
      refine xr_bipush (v := 17) cx dX9_lostSteps_18 (by decide) ?_
      refine xr_iload_2 cx dX9_lostSteps_20 ?_
      refine xr_iadd cx dX9_lostSteps_21 ?_
      refine xr_ialdN (j := 17 + i) cx dX9_lostSteps_22 g1 (nI_add 17 i) (by omega) (by decide) ?_
      rw [su_same]
      refine xr_ior cx dX9_lostSteps_23 ?_
      refine xr_istore_1 cx dX9_lostSteps_24 ?_
      refine xr_iinc_2 (y := 1) cx dX9_lostSteps_25 (by decide) ?_
      refine xr_goto (tgt := 7) cx dX9_lostSteps_28 (by decide) ?_
      rw [nI_1]
      exact ih (i + 1) _ (by omega) h
theorem m_X9_lostSteps {l : Launch} {E : XEnv} {d : Nat} {σ : XSt} {a : Nat → Int32} {Q : Int32 → XSt → Prop} (hG : xGl E) (hx : xIx a) (h : Q (a 2 - nI (popC (xit (fun p acc => acc ||| a (17 + p)) 6 0 (mPh a)))) (su σ 1 a)) : XMi l E (d + 1) mX9_lostSteps [.ref (xad E 0)] (su σ 1 a) Q := by
  have g0 := hG.1
  have g1 := hG.2.1
  have g2 := hG.2.2.1
  have g3 := hG.2.2.2.1
  have g4 := hG.2.2.2.2.1
  have g5 := hG.2.2.2.2.2.1
  have g6 := hG.2.2.2.2.2.2.1
  have g7 := hG.2.2.2.2.2.2.2.1
  refine xr_entry (lv := [some (.ref (xad E 0)), none, none]) (by decide +kernel) (by simp [Value.category]) (Nat.le_of_ble_eq_true rfl) rfl (fun w hw cx cz => ?_)
  subst hw
  refine xr_aload_0 cx dX9_lostSteps_0 ?_
  refine xr_V0i (ν := mX9_onPhotos) cx dX9_lostSteps_1 rfl ml_X9_41 vf_X9_onPhotos g0 (Nat.le_of_ble_eq_true rfl) (m_X9_onPhotos hG hx ?_)
  refine xr_istore_1 cx dX9_lostSteps_4 ?_
  refine xr_iconst (v := 0) cx dX9_lostSteps_5 (by decide) ?_
  refine xr_istore_2 cx dX9_lostSteps_6 ?_
  exact lp_X9_lost hG cx cz 6 0 _ rfl h
theorem m_X9_count {l : Launch} {E : XEnv} {d : Nat} {σ : XSt} {a : Nat → Int32} {Q : Int32 → XSt → Prop} (hG : xGl E) {y : Int32} {hl : List (Nat → Int32)} {sn : Option (Nat → Int32)} {t : Nat → Int32} {L : Nat} (hM : MRel σ a hl sn t L) (hI : xInv a)  (h : Q (oCount a hl.length L y) σ) : XMi l E (d + 2) mX9_count [.ref (xad E 0), .int y] σ Q := by
  have g0 := hG.1
  have g1 := hG.2.1
  have g2 := hG.2.2.1
  have g3 := hG.2.2.2.1
  have g4 := hG.2.2.2.2.1
  have g5 := hG.2.2.2.2.2.1
  have g6 := hG.2.2.2.2.2.2.1
  have g7 := hG.2.2.2.2.2.2.2.1
  have hS : su σ 1 a = σ := by rw [← hM.1]; exact su_id σ 1
  obtain ⟨hx, hO, hN, hD, hW, hE, hA⟩ := id hI
  obtain ⟨ix1, ix2, ix3, ix4, iy1, iy2, iy3, iy4⟩ := id hx
  rw [← hS] at h ⊢
  unfold oCount at h
  refine xr_entry (lv := [some (.ref (xad E 0)), some (.int y)]) (by decide +kernel) (by simp [Value.category]) (Nat.le_of_ble_eq_true rfl) rfl (fun w hw cx cz => ?_)
  subst hw
  refine xr_iload_1 cx dX9_count_0 ?_
  refine xr_tsw (n := 16) (tgtd := 184) cx dX9_count_1 (by decide) (by decide) (by decide) (xn_16 (fun cq1 => ⟨79, 80, by decide, by decide, ?_⟩) (fun cq1 => ⟨86, 87, by decide, by decide, ?_⟩) (fun cq1 => ⟨93, 94, by decide, by decide, ?_⟩) (fun cq1 => ⟨100, 101, by decide, by decide, ?_⟩) (fun cq1 => ⟨108, 109, by decide, by decide, ?_⟩) (fun cq1 => ⟨116, 117, by decide, by decide, ?_⟩) (fun cq1 => ⟨124, 125, by decide, by decide, ?_⟩) (fun cq1 => ⟨132, 133, by decide, by decide, ?_⟩) (fun cq1 => ⟨140, 141, by decide, by decide, ?_⟩) (fun cq1 => ⟨148, 149, by decide, by decide, ?_⟩) (fun cq1 => ⟨148, 149, by decide, by decide, ?_⟩) (fun cq1 => ⟨148, 149, by decide, by decide, ?_⟩) (fun cq1 => ⟨161, 162, by decide, by decide, ?_⟩) (fun cq1 => ⟨166, 167, by decide, by decide, ?_⟩) (fun cq1 => ⟨173, 174, by decide, by decide, ?_⟩) (fun cq1 => ⟨178, 179, by decide, by decide, ?_⟩)) (fun cq1 => ?_)
  · rw [xsel_in cq1 (j := 0) rfl (by simp)] at h
    refine xr_aload_0 cx dX9_count_80 ?_
    refine xr_getR cx dX9_count_81 fl_X9_7 g0 rfl ?_
    refine xr_iconst (v := 1) cx dX9_count_84 (by decide) ?_
    refine xr_ialdN (j := 1) cx dX9_count_85 g1 rfl (by decide) (by decide) ?_
    rw [su_same]
    refine xr_iret cx cz dX9_count_86 rfl ?_
    exact h
  · rw [xsel_in cq1 (j := 1) rfl (by simp)] at h
    refine xr_aload_0 cx dX9_count_87 ?_
    refine xr_getR cx dX9_count_88 fl_X9_7 g0 rfl ?_
    refine xr_iconst (v := 2) cx dX9_count_91 (by decide) ?_
    refine xr_ialdN (j := 2) cx dX9_count_92 g1 rfl (by decide) (by decide) ?_
    rw [su_same]
    refine xr_iret cx cz dX9_count_93 rfl ?_
    exact h
  · rw [xsel_in cq1 (j := 2) rfl (by simp)] at h
    refine xr_aload_0 cx dX9_count_94 ?_
    refine xr_getR cx dX9_count_95 fl_X9_7 g0 rfl ?_
    refine xr_iconst (v := 3) cx dX9_count_98 (by decide) ?_
    refine xr_ialdN (j := 3) cx dX9_count_99 g1 rfl (by decide) (by decide) ?_
    rw [su_same]
    refine xr_iret cx cz dX9_count_100 rfl ?_
    exact h
  · rw [xsel_in cq1 (j := 3) rfl (by simp)] at h
    refine xr_aload_0 cx dX9_count_101 ?_
    refine xr_getR cx dX9_count_102 fl_X9_7 g0 rfl ?_
    refine xr_bipush (v := 8) cx dX9_count_105 (by decide) ?_
    refine xr_ialdN (j := 8) cx dX9_count_107 g1 rfl (by decide) (by decide) ?_
    rw [su_same]
    refine xr_iret cx cz dX9_count_108 rfl ?_
    exact h
  · rw [xsel_in cq1 (j := 4) rfl (by simp)] at h
    refine xr_aload_0 cx dX9_count_109 ?_
    refine xr_getR cx dX9_count_110 fl_X9_7 g0 rfl ?_
    refine xr_bipush (v := 9) cx dX9_count_113 (by decide) ?_
    refine xr_ialdN (j := 9) cx dX9_count_115 g1 rfl (by decide) (by decide) ?_
    rw [su_same]
    refine xr_iret cx cz dX9_count_116 rfl ?_
    exact h
  · rw [xsel_in cq1 (j := 5) rfl (by simp)] at h
    refine xr_aload_0 cx dX9_count_117 ?_
    refine xr_getR cx dX9_count_118 fl_X9_7 g0 rfl ?_
    refine xr_bipush (v := 10) cx dX9_count_121 (by decide) ?_
    refine xr_ialdN (j := 10) cx dX9_count_123 g1 rfl (by decide) (by decide) ?_
    rw [su_same]
    refine xr_iret cx cz dX9_count_124 rfl ?_
    exact h
  · rw [xsel_in cq1 (j := 6) rfl (by simp)] at h
    refine xr_aload_0 cx dX9_count_125 ?_
    refine xr_getR cx dX9_count_126 fl_X9_7 g0 rfl ?_
    refine xr_bipush (v := 11) cx dX9_count_129 (by decide) ?_
    refine xr_ialdN (j := 11) cx dX9_count_131 g1 rfl (by decide) (by decide) ?_
    rw [su_same]
    refine xr_iret cx cz dX9_count_132 rfl ?_
    exact h
  · rw [xsel_in cq1 (j := 7) rfl (by simp)] at h
    refine xr_aload_0 cx dX9_count_133 ?_
    refine xr_getR cx dX9_count_134 fl_X9_7 g0 rfl ?_
    refine xr_bipush (v := 12) cx dX9_count_137 (by decide) ?_
    refine xr_ialdN (j := 12) cx dX9_count_139 g1 rfl (by decide) (by decide) ?_
    rw [su_same]
    refine xr_iret cx cz dX9_count_140 rfl ?_
    exact h
  · rw [xsel_in cq1 (j := 8) rfl (by simp)] at h
    refine xr_aload_0 cx dX9_count_141 ?_
    refine xr_getR cx dX9_count_142 fl_X9_7 g0 rfl ?_
    refine xr_bipush (v := 13) cx dX9_count_145 (by decide) ?_
    refine xr_ialdN (j := 13) cx dX9_count_147 g1 rfl (by decide) (by decide) ?_
    rw [su_same]
    refine xr_iret cx cz dX9_count_148 rfl ?_
    exact h
  · rw [xsel_in cq1 (j := 9) rfl (by simp)] at h
    refine xr_aload_0 cx dX9_count_149 ?_
    refine xr_getR cx dX9_count_150 fl_X9_7 g0 rfl ?_
    refine xr_bipush (v := 14) cx dX9_count_153 (by decide) ?_
    refine xr_iload_1 cx dX9_count_155 ?_
    refine xr_iadd cx dX9_count_156 ?_
    refine xr_bipush (v := 9) cx dX9_count_157 (by decide) ?_
    refine xr_isub cx dX9_count_159 ?_
    refine xr_ialdN (j := 14) cx dX9_count_160 g1 (by rw [cq1]; decide) (by decide) (by decide) ?_
    rw [su_same]
    refine xr_iret cx cz dX9_count_161 rfl ?_
    exact h
  · rw [xsel_in cq1 (j := 10) rfl (by simp)] at h
    refine xr_aload_0 cx dX9_count_149 ?_
    refine xr_getR cx dX9_count_150 fl_X9_7 g0 rfl ?_
    refine xr_bipush (v := 14) cx dX9_count_153 (by decide) ?_
    refine xr_iload_1 cx dX9_count_155 ?_
    refine xr_iadd cx dX9_count_156 ?_
    refine xr_bipush (v := 9) cx dX9_count_157 (by decide) ?_
    refine xr_isub cx dX9_count_159 ?_
    refine xr_ialdN (j := 15) cx dX9_count_160 g1 (by rw [cq1]; decide) (by decide) (by decide) ?_
    rw [su_same]
    refine xr_iret cx cz dX9_count_161 rfl ?_
    exact h
  · rw [xsel_in cq1 (j := 11) rfl (by simp)] at h
    refine xr_aload_0 cx dX9_count_149 ?_
    refine xr_getR cx dX9_count_150 fl_X9_7 g0 rfl ?_
    refine xr_bipush (v := 14) cx dX9_count_153 (by decide) ?_
    refine xr_iload_1 cx dX9_count_155 ?_
    refine xr_iadd cx dX9_count_156 ?_
    refine xr_bipush (v := 9) cx dX9_count_157 (by decide) ?_
    refine xr_isub cx dX9_count_159 ?_
    refine xr_ialdN (j := 16) cx dX9_count_160 g1 (by rw [cq1]; decide) (by decide) (by decide) ?_
    rw [su_same]
    refine xr_iret cx cz dX9_count_161 rfl ?_
    exact h
  · rw [xsel_in cq1 (j := 12) rfl (by simp)] at h
    rw [swar_pop, ← or_start, Int32.zero_or] at h
    refine xr_aload_0 cx dX9_count_162 ?_
    refine xr_V0i (ν := mX9_lostSteps) cx dX9_count_163 rfl ml_X9_138 vf_X9_lostSteps g0 (Nat.le_of_ble_eq_true rfl) (m_X9_lostSteps hG hx ?_)
    refine xr_iret cx cz dX9_count_166 rfl ?_
    exact h
  · rw [xsel_in cq1 (j := 13) rfl (by simp)] at h
    refine xr_aload_0 cx dX9_count_167 ?_
    refine xr_getR cx dX9_count_168 fl_X9_7 g0 rfl ?_
    refine xr_iconst (v := 0) cx dX9_count_171 (by decide) ?_
    refine xr_ialdN (j := 0) cx dX9_count_172 g1 rfl (by decide) (by decide) ?_
    rw [su_same]
    refine xr_iret cx cz dX9_count_173 rfl ?_
    exact h
  · rw [xsel_in cq1 (j := 14) rfl (by simp)] at h
    refine xr_aload_0 cx dX9_count_174 ?_
    refine xr_getI cx dX9_count_175 fl_X9_31 g0 rfl ?_
    rw [su_ne _ _ (by decide), hM.2.1.1]
    refine xr_iret cx cz dX9_count_178 rfl ?_
    exact h
  · rw [xsel_in cq1 (j := 15) rfl (by simp)] at h
    refine xr_aload_0 cx dX9_count_179 ?_
    refine xr_getI cx dX9_count_180 fl_X9_107 g0 rfl ?_
    rw [su_ne _ _ (by decide), hM.2.2.2.1]
    refine xr_iret cx cz dX9_count_183 rfl ?_
    exact h
  · rw [xsel_out (n := 16) rfl (by decide) cq1] at h
    refine xr_bipush (v := -2) cx dX9_count_184 (by decide) ?_
    refine xr_iret cx cz dX9_count_186 rfl ?_
    exact h
theorem m_X9_type {l : Launch} {E : XEnv} {d : Nat} {σ : XSt} {a : Nat → Int32} {Q : Int32 → XSt → Prop} (hG : xGl E) {hl : List (Nat → Int32)} {sn : Option (Nat → Int32)} {t : Nat → Int32} {L : Nat} {x : Int32} (hM : MRel σ a hl sn t L) (h : (L = 60 → Q (-3) σ) ∧ (L < 60 → ∀ τ, MRel τ a hl sn (upd t L x) (L + 1) → (∀ k, 8 ≤ k → τ k = σ k) → Q (nI (L + 1)) τ)) : XMi l E d mX9_type [.ref (xad E 0), .int x] σ Q := by
  have g0 := hG.1
  have g1 := hG.2.1
  have g2 := hG.2.2.1
  have g3 := hG.2.2.2.1
  have g4 := hG.2.2.2.2.1
  have g5 := hG.2.2.2.2.2.1
  have g6 := hG.2.2.2.2.2.2.1
  have g7 := hG.2.2.2.2.2.2.2.1
  refine xr_entry (lv := [some (.ref (xad E 0)), some (.int x)]) (by decide +kernel) (by simp [Value.category]) (Nat.le_of_ble_eq_true rfl) rfl (fun w hw cx cz => ?_)
  subst hw
  refine xr_aload_0 cx dX9_type_0 ?_
  refine xr_getI cx dX9_type_1 fl_X9_107 g0 rfl ?_
  refine xr_bipush (v := 60) cx dX9_type_4 (by decide) ?_
  rw [hM.2.2.2.1]
  refine xr_icmp_ne (tgt := 12) cx dX9_type_6 (by decide) (fun cq6 => ?_) (fun cq6 => ?_)
  · have hL : L < 60 := by
      have h1 := hM.2.2.2.2.1
      have : L ≠ 60 := fun q => cq6 (by rw [q]; rfl)
      omega
    refine xr_aload_0 cx dX9_type_12 ?_
    refine xr_getR cx dX9_type_13 fl_X9_22 g0 rfl ?_
    refine xr_aload_0 cx dX9_type_16 ?_
    refine xr_getI cx dX9_type_17 fl_X9_107 g0 rfl ?_
    rw [hM.2.2.2.1]
    refine xr_iload_1 cx dX9_type_20 ?_
    refine xr_iastN (j := L) cx dX9_type_21 g5 rfl hL (by decide) ?_
    refine xr_aload_0 cx dX9_type_22 ?_
    refine xr_dup cx dX9_type_23 rfl ?_
    refine xr_getI cx dX9_type_24 fl_X9_107 g0 rfl ?_
    refine xr_iconst (v := 1) cx dX9_type_27 (by decide) ?_
    rw [su_ne _ _ (by decide), hM.2.2.2.1]
    refine xr_iadd cx dX9_type_28 ?_
    rw [nI_1]
    refine xr_putI cx dX9_type_29 fp_X9_107 g0 rfl ?_
    refine xr_aload_0 cx dX9_type_32 ?_
    refine xr_getI cx dX9_type_33 fl_X9_107 g0 rfl ?_
    rw [su_same, upd_same]
    refine xr_iret cx cz dX9_type_36 rfl ?_
    exact h.2 hL _ ⟨by rw [su_ne _ _ (by decide), su_ne _ _ (by decide)]; exact hM.1, MH_fr hM.2.1 (by rw [su_same, upd_ne _ _ (by decide), su_ne _ _ (by decide)]) (by rw [su_ne _ _ (by decide), su_ne _ _ (by decide)]), MS_fr hM.2.2.1 (by rw [su_same, upd_ne _ _ (by decide), su_ne _ _ (by decide)]) (by rw [su_ne _ _ (by decide), su_ne _ _ (by decide)]), by rw [su_same, upd_same], hL, fun i hi => by
      rw [su_ne _ _ (by decide), su_same]
      by_cases e : i = L
      · subst e; rw [upd_same, upd_same]
      · rw [upd_ne _ _ e, upd_ne _ _ e]; exact hM.2.2.2.2.2 i (by omega)⟩ (fun k hk => by rw [su_ne _ _ (by omega), su_ne _ _ (by omega)])
  · refine xr_bipush (v := -3) cx dX9_type_9 (by decide) ?_
    refine xr_iret cx cz dX9_type_11 rfl ?_
    exact h.1 (nI_inj (by have := hM.2.2.2.2.1; omega) (by decide) cq6)
theorem m_X9_clearText {l : Launch} {E : XEnv} {d : Nat} {σ : XSt} {a : Nat → Int32} {Q : Int32 → XSt → Prop} (hG : xGl E) {hl : List (Nat → Int32)} {sn : Option (Nat → Int32)} {t : Nat → Int32} {L : Nat} (hM : MRel σ a hl sn t L) (h : ∀ τ, MRel τ a hl sn t 0 → (∀ k, 8 ≤ k → τ k = σ k) → Q (nI L) τ) : XMi l E d mX9_clearText [.ref (xad E 0)] σ Q := by
  have g0 := hG.1
  have g1 := hG.2.1
  have g2 := hG.2.2.1
  have g3 := hG.2.2.2.1
  have g4 := hG.2.2.2.2.1
  have g5 := hG.2.2.2.2.2.1
  have g6 := hG.2.2.2.2.2.2.1
  have g7 := hG.2.2.2.2.2.2.2.1
  refine xr_entry (lv := [some (.ref (xad E 0)), none]) (by decide +kernel) (by simp [Value.category]) (Nat.le_of_ble_eq_true rfl) rfl (fun w hw cx cz => ?_)
  subst hw
  refine xr_aload_0 cx dX9_clearText_0 ?_
  refine xr_getI cx dX9_clearText_1 fl_X9_107 g0 rfl ?_
  rw [hM.2.2.2.1]
  refine xr_istore_1 cx dX9_clearText_4 ?_
  refine xr_aload_0 cx dX9_clearText_5 ?_
  refine xr_iconst (v := 0) cx dX9_clearText_6 (by decide) ?_
  refine xr_putI cx dX9_clearText_7 fp_X9_107 g0 rfl ?_
  refine xr_iload_1 cx dX9_clearText_10 ?_
  refine xr_iret cx cz dX9_clearText_11 rfl ?_
  exact h _ ⟨by rw [su_ne _ _ (by decide)]; exact hM.1, MH_fr hM.2.1 (by rw [su_same, upd_ne _ _ (by decide)]) (by rw [su_ne _ _ (by decide)]), MS_fr hM.2.2.1 (by rw [su_same, upd_ne _ _ (by decide)]) (by rw [su_ne _ _ (by decide)]), by rw [su_same, upd_same]; rfl, Nat.zero_le _, fun i hi => absurd hi (Nat.not_lt_zero i)⟩ (fun k hk => by rw [su_ne _ _ (by omega)])
