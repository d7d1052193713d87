theorem lp_X9_rs_end {E : XEnv} {d F : Nat} {σ : XSt} {Q : Int32 → XSt → Prop} {w : XO} {y : Option Value} (hG : xGl E) (cx : CX (d + 3) w E mX9_readsStep) (cz : CZi w E Q) (hF : 1 ≤ F) (h11 : σ 0 11 = nI (F - 1)) (h : Q 1 (su σ 0 (upd (σ 0) 11 (nI F)))) : XG w E 73 [some (.ref (xad E 0)), y, some (.int 0)] [] σ := by
  have g0 := hG.1
  have g1 := hG.2.1
  have g2 := hG.2.2.1
  have g3 := hG.2.2.2.1
  have g4 := hG.2.2.2.2.1
  have g5 := hG.2.2.2.2.2.1
  have g6 := hG.2.2.2.2.2.2.1
  have g7 := hG.2.2.2.2.2.2.2.1
  refine xr_iload_2 cx dX9_readsStep_73 ?_
  refine xr_if_eq (tgt := 128) cx dX9_readsStep_74 (by decide) (fun cq74 => ?_) (fun cq74 => ?_)
  · refine xr_aload_0 cx dX9_readsStep_128 ?_
    refine xr_dup cx dX9_readsStep_129 rfl ?_
    refine xr_getI cx dX9_readsStep_130 fl_X9_120 g0 rfl ?_
    rw [h11]
    refine xr_iconst (v := 1) cx dX9_readsStep_133 (by decide) ?_
    refine xr_iadd cx dX9_readsStep_134 ?_
    rw [nI_1, show F - 1 + 1 = F by omega]
    refine xr_putI cx dX9_readsStep_135 fp_X9_120 g0 rfl ?_
    refine xr_iconst (v := 1) cx dX9_readsStep_138 (by decide) ?_
    refine xr_zret cx cz dX9_readsStep_139 rfl rfl ?_
    exact h
  · exact absurd rfl cq74
theorem lp_X9_readsStep {E : XEnv} {d N L : Nat} {t : Nat → Int32} {Q : Int32 → XSt → Prop} {w : XO} (hG : xGl E) (hN : N ≤ 30) (cx : CX (d + 3) w E mX9_readsStep) (cz : CZi w E Q) : ∀ (n i : Nat) (s : PS) {σ : XSt}, L - i < n → s.1 = 2 → 1 ≤ s.2.1 → pBnd s → pFit s i → MT σ t L → i ≤ L → xPk σ i (s.2.1 - 1) s.2.1 s.2.2.2.1 s.2.2.2.2 → (∀ (τ : XSt) (j : Nat), TG σ τ → j ≤ L → τ 0 8 = nI j → pAns L (pRm N t L i s) = nI j → Q 0 τ) → (∀ (τ : XSt) (j : Nat) (s2 : PS), TG σ τ → i < j → j ≤ L → pRm N t L i s = pRm N t L j s2 → (s2.1 = 1 ∨ s2.1 = 3 ∨ s2.1 = 4) → pBnd s2 → pFit s2 j → xPk τ j s2.2.1 s2.2.1 s2.2.2.2.1 (pNd s2) → (j < L → pStep N (t j) s2 = if t j = 59 then some (0, s2.2.1, s2.2.2.1, s2.2.2.2.1, pNd s2) else none) → Q 1 τ) → XG w E 73 [some (.ref (xad E 0)), some (.int (nI (N + s.2.1 - 1))), some (.int 1)] [] σ := by
  have g0 := hG.1
  have g1 := hG.2.1
  have g2 := hG.2.2.1
  have g3 := hG.2.2.2.1
  have g4 := hG.2.2.2.2.1
  have g5 := hG.2.2.2.2.2.1
  have g6 := hG.2.2.2.2.2.2.1
  have g7 := hG.2.2.2.2.2.2.2.1
  intro n
  induction n with
  | zero =>
    intro i s σ hn
    exact absurd hn (Nat.not_lt_zero _)
  | succ n ih =>
    intro i s σ hn s2 hF hb hf hT hi hP h0 h1
    have hL60 := hT.2.1
    have hFb := hb.2.1
    refine xr_iload_2 cx dX9_readsStep_73 ?_
    refine xr_if_eq (tgt := 128) cx dX9_readsStep_74 (by decide) (fun cq74 => ?_) (fun cq74 => ?_)
    · exact absurd cq74 (by decide)
    · refine xr_aload_0 cx dX9_readsStep_77 ?_
      refine xr_iload_1 cx dX9_readsStep_78 ?_
      refine xr_V1i (ν := mX9_readsNumber) cx dX9_readsStep_79 rfl ml_X9_126 vf_X9_readsNumber g0 (Nat.le_of_ble_eq_true rfl) (m_X9_readsNumber hG hT hP.1 hi hN hb s2 (fun q => ?_) (fun ρ j p v u1 u2 u3 u4 u5 u6 u7 u8 u9 u10 u11 u12 => ?_))
      · refine xr_if_ne (tgt := 87) cx dX9_readsStep_82 (by decide) (fun cq82 => ?_) (fun cq82 => ?_)
        · exact absurd rfl cq82
        · refine xr_iconst (v := 0) cx dX9_readsStep_85 (by decide) ?_
          refine xr_zret cx cz dX9_readsStep_86 rfl rfl ?_
          exact h0 σ i (TG_rf σ) hi hP.1 q
      · have hbp0 : pBnd (p, s.2.1, nI v, s.2.2.2.1, s.2.2.2.2) := ⟨show p ≤ 4 by omega, hb.2.1, fun _ => hF⟩
        have hfp0 : pFit (p, s.2.1, nI v, s.2.2.2.1, s.2.2.2.2) j := by
          unfold pFit at hf ⊢
          rw [if_neg (by rw [s2]; decide)] at hf
          rw [if_neg (show ¬ p = 0 by omega)]
          show 2 * s.2.1 ≤ j + 1
          omega
        refine xr_if_ne (tgt := 87) cx dX9_readsStep_82 (by decide) (fun cq82 => ?_) (fun cq82 => ?_)
        · refine xr_aload_0 cx dX9_readsStep_87 ?_
          refine xr_getR cx dX9_readsStep_88 fl_X9_28 g0 rfl ?_
          refine xr_aload_0 cx dX9_readsStep_91 ?_
          refine xr_getI cx dX9_readsStep_92 fl_X9_120 g0 rfl ?_
          rw [u2, hP.2.1]
          refine xr_dup2 cx dX9_readsStep_95 rfl rfl ?_
          refine xr_ialdN (j := s.2.1 - 1) cx dX9_readsStep_96 g7 rfl (by omega) (by decide) ?_
          rw [u4, hP.2.2.2 _ (by omega)]
          refine xr_aload_0 cx dX9_readsStep_97 ?_
          refine xr_getI cx dX9_readsStep_98 fl_X9_117 g0 rfl ?_
          rw [u8]
          refine xr_bipush (v := 30) cx dX9_readsStep_101 (by decide) ?_
          refine xr_icmp_ge (tgt := 115) cx dX9_readsStep_103 (by decide) (fun cq103 => ?_) (fun cq103 => ?_)
          · have hxb : (0 : Int32) = xbitOf (nI v) := by unfold xbitOf; rw [if_pos (Or.inr cq103)]
            refine xr_iconst (v := 0) cx dX9_readsStep_115 (by decide) ?_
            refine xr_ior cx dX9_readsStep_116 ?_
            refine xr_iastN (j := s.2.1 - 1) cx dX9_readsStep_117 g7 rfl (by omega) (by decide) ?_
            refine xr_gen (fun κ => TG ρ κ ∧ xPk κ j (s.2.1 - 1) s.2.1 s.2.2.2.1 (pNd (p, s.2.1, nI v, s.2.2.2.1, s.2.2.2.2))) ⟨TG_7, by rw [su_ne _ _ (by decide)]; exact u7, by rw [su_ne _ _ (by decide), u2]; exact hP.2.1, fun k hk => by rw [su_ne _ _ (by decide), u3]; exact hP.2.2.1 k hk, fun k hk => ?_⟩ (fun κ hk => ?_)
            · rw [su_same]
              have e1 : pNd (p, s.2.1, nI v, s.2.2.2.1, s.2.2.2.2) = upd s.2.2.2.2 (s.2.1 - 1) (s.2.2.2.2 (s.2.1 - 1) ||| xbitOf (nI v)) := if_pos u11
              rw [e1, ← hxb]
              by_cases e : k = s.2.1 - 1
              · subst e; rw [upd_same, upd_same]
              · rw [upd_ne _ _ e, upd_ne _ _ e, u4]; exact hP.2.2.2 k hk
            obtain ⟨k1, k2⟩ := hk
            have hTk := MT_TG (MT_TG hT u1) k1
            by_cases hc : j < L ∧ t j = 44
            · refine xr_aload_0 cx dX9_readsStep_118 ?_
              refine xr_bipush (v := 44) cx dX9_readsStep_119 (by decide) ?_
              refine xr_V1i (ν := mX9_takes) cx dX9_readsStep_121 rfl ml_X9_123 vf_X9_takes g0 (Nat.le_of_ble_eq_true rfl) (m_X9_takes_y hG hTk k2.1 u6 hc ?_)
              refine xr_istore_2 cx dX9_readsStep_124 ?_
              refine xr_goto (tgt := 73) cx dX9_readsStep_125 (by decide) ?_
              have hgo := pRm_go hc.1 (show pStep N (t j) (p, s.2.1, nI v, s.2.2.2.1, s.2.2.2.2) = some (2, s.2.1, nI v, s.2.2.2.1, pNd (p, s.2.1, nI v, s.2.2.2.1, s.2.2.2.2)) from (u12 hc.1).trans (by rw [hc.2, if_pos (Or.inr (by rw [if_neg (show ¬ p = 1 by omega)])), if_neg (by decide)]))
              have hbp := pStep_bnd (show pStep N (t j) (p, s.2.1, nI v, s.2.2.2.1, s.2.2.2.2) = some (2, s.2.1, nI v, s.2.2.2.1, pNd (p, s.2.1, nI v, s.2.2.2.1, s.2.2.2.2)) from (u12 hc.1).trans (by rw [hc.2, if_pos (Or.inr (by rw [if_neg (show ¬ p = 1 by omega)])), if_neg (by decide)])) hbp0 hfp0 (by omega)
              exact ih (j + 1) (2, s.2.1, nI v, s.2.2.2.1, pNd (p, s.2.1, nI v, s.2.2.2.1, s.2.2.2.2)) (by omega) rfl hF hbp.1 hbp.2 (MT_TG hTk (TG_0 (Or.inl rfl))) (by omega) ⟨by rw [su_same, upd_same], by rw [su_same, upd_ne _ _ (by decide)]; exact k2.2.1, fun k hk => by rw [su_ne _ _ (by decide)]; exact k2.2.2.1 k hk, fun k hk => by rw [su_ne _ _ (by decide)]; exact k2.2.2.2 k hk⟩
                (fun τ u g a b e => h0 τ u (TG_tr u1 (TG_tr k1 (TG_tr (TG_0 (Or.inl rfl)) g))) a b (by rw [u10, hgo]; exact e))
                (fun τ u s3 g a b e c1 c2 c3 c4 c5 => h1 τ u s3 (TG_tr u1 (TG_tr k1 (TG_tr (TG_0 (Or.inl rfl)) g))) (by omega) b (by rw [u10, hgo]; exact e) c1 c2 c3 c4 c5)
            · refine xr_aload_0 cx dX9_readsStep_118 ?_
              refine xr_bipush (v := 44) cx dX9_readsStep_119 (by decide) ?_
              refine xr_V1i (ν := mX9_takes) cx dX9_readsStep_121 rfl ml_X9_123 vf_X9_takes g0 (Nat.le_of_ble_eq_true rfl) (m_X9_takes_n hG hTk k2.1 u6 hc ?_)
              refine xr_istore_2 cx dX9_readsStep_124 ?_
              refine xr_goto (tgt := 73) cx dX9_readsStep_125 (by decide) ?_
              refine lp_X9_rs_end hG cx cz hF k2.2.1 ?_
              refine h1 _ j (p, s.2.1, nI v, s.2.2.2.1, s.2.2.2.2) (TG_tr u1 (TG_tr k1 (TG_0 (Or.inr (Or.inl rfl))))) u5 u6 u10 (Or.inr u11) hbp0 hfp0 ⟨by rw [su_same, upd_ne _ _ (by decide)]; exact k2.1, by rw [su_same, upd_same], fun k hk => by rw [su_ne _ _ (by decide)]; exact k2.2.2.1 k hk, fun k hk => by rw [su_ne _ _ (by decide)]; exact k2.2.2.2 k hk⟩ (fun hj => ?_)
              refine (u12 hj).trans ?_
              by_cases e : t j = 59
              · rw [if_pos (Or.inl e), if_pos e, if_pos e]
              · have hno : ¬ (t j = 59 ∨ t j = (if p = 1 then 60 else 44)) := by
                  rintro (z | z)
                  · exact e z
                  · rw [if_neg (show ¬ p = 1 by omega)] at z; exact hc ⟨hj, z⟩
                exact (if_neg hno).trans (if_neg e).symm
          · have hxb : (1 : Int32) <<< (nI v &&& 31) = xbitOf (nI v) := by unfold xbitOf; rw [if_neg (fun z => Or.elim z (nI_pos (by omega)) cq103)]
            refine xr_iconst (v := 1) cx dX9_readsStep_106 (by decide) ?_
            refine xr_aload_0 cx dX9_readsStep_107 ?_
            refine xr_getI cx dX9_readsStep_108 fl_X9_117 g0 rfl ?_
            rw [u8]
            refine xr_ishl cx dX9_readsStep_111 ?_
            refine xr_goto (tgt := 116) cx dX9_readsStep_112 (by decide) ?_
            refine xr_ior cx dX9_readsStep_116 ?_
            refine xr_iastN (j := s.2.1 - 1) cx dX9_readsStep_117 g7 rfl (by omega) (by decide) ?_
            refine xr_gen (fun κ => TG ρ κ ∧ xPk κ j (s.2.1 - 1) s.2.1 s.2.2.2.1 (pNd (p, s.2.1, nI v, s.2.2.2.1, s.2.2.2.2))) ⟨TG_7, by rw [su_ne _ _ (by decide)]; exact u7, by rw [su_ne _ _ (by decide), u2]; exact hP.2.1, fun k hk => by rw [su_ne _ _ (by decide), u3]; exact hP.2.2.1 k hk, fun k hk => ?_⟩ (fun κ hk => ?_)
            · rw [su_same]
              have e1 : pNd (p, s.2.1, nI v, s.2.2.2.1, s.2.2.2.2) = upd s.2.2.2.2 (s.2.1 - 1) (s.2.2.2.2 (s.2.1 - 1) ||| xbitOf (nI v)) := if_pos u11
              rw [e1, ← hxb]
              by_cases e : k = s.2.1 - 1
              · subst e; rw [upd_same, upd_same]
              · rw [upd_ne _ _ e, upd_ne _ _ e, u4]; exact hP.2.2.2 k hk
            obtain ⟨k1, k2⟩ := hk
            have hTk := MT_TG (MT_TG hT u1) k1
            by_cases hc : j < L ∧ t j = 44
            · refine xr_aload_0 cx dX9_readsStep_118 ?_
              refine xr_bipush (v := 44) cx dX9_readsStep_119 (by decide) ?_
              refine xr_V1i (ν := mX9_takes) cx dX9_readsStep_121 rfl ml_X9_123 vf_X9_takes g0 (Nat.le_of_ble_eq_true rfl) (m_X9_takes_y hG hTk k2.1 u6 hc ?_)
              refine xr_istore_2 cx dX9_readsStep_124 ?_
              refine xr_goto (tgt := 73) cx dX9_readsStep_125 (by decide) ?_
              have hgo := pRm_go hc.1 (show pStep N (t j) (p, s.2.1, nI v, s.2.2.2.1, s.2.2.2.2) = some (2, s.2.1, nI v, s.2.2.2.1, pNd (p, s.2.1, nI v, s.2.2.2.1, s.2.2.2.2)) from (u12 hc.1).trans (by rw [hc.2, if_pos (Or.inr (by rw [if_neg (show ¬ p = 1 by omega)])), if_neg (by decide)]))
              have hbp := pStep_bnd (show pStep N (t j) (p, s.2.1, nI v, s.2.2.2.1, s.2.2.2.2) = some (2, s.2.1, nI v, s.2.2.2.1, pNd (p, s.2.1, nI v, s.2.2.2.1, s.2.2.2.2)) from (u12 hc.1).trans (by rw [hc.2, if_pos (Or.inr (by rw [if_neg (show ¬ p = 1 by omega)])), if_neg (by decide)])) hbp0 hfp0 (by omega)
              exact ih (j + 1) (2, s.2.1, nI v, s.2.2.2.1, pNd (p, s.2.1, nI v, s.2.2.2.1, s.2.2.2.2)) (by omega) rfl hF hbp.1 hbp.2 (MT_TG hTk (TG_0 (Or.inl rfl))) (by omega) ⟨by rw [su_same, upd_same], by rw [su_same, upd_ne _ _ (by decide)]; exact k2.2.1, fun k hk => by rw [su_ne _ _ (by decide)]; exact k2.2.2.1 k hk, fun k hk => by rw [su_ne _ _ (by decide)]; exact k2.2.2.2 k hk⟩
                (fun τ u g a b e => h0 τ u (TG_tr u1 (TG_tr k1 (TG_tr (TG_0 (Or.inl rfl)) g))) a b (by rw [u10, hgo]; exact e))
                (fun τ u s3 g a b e c1 c2 c3 c4 c5 => h1 τ u s3 (TG_tr u1 (TG_tr k1 (TG_tr (TG_0 (Or.inl rfl)) g))) (by omega) b (by rw [u10, hgo]; exact e) c1 c2 c3 c4 c5)
            · refine xr_aload_0 cx dX9_readsStep_118 ?_
              refine xr_bipush (v := 44) cx dX9_readsStep_119 (by decide) ?_
              refine xr_V1i (ν := mX9_takes) cx dX9_readsStep_121 rfl ml_X9_123 vf_X9_takes g0 (Nat.le_of_ble_eq_true rfl) (m_X9_takes_n hG hTk k2.1 u6 hc ?_)
              refine xr_istore_2 cx dX9_readsStep_124 ?_
              refine xr_goto (tgt := 73) cx dX9_readsStep_125 (by decide) ?_
              refine lp_X9_rs_end hG cx cz hF k2.2.1 ?_
              refine h1 _ j (p, s.2.1, nI v, s.2.2.2.1, s.2.2.2.2) (TG_tr u1 (TG_tr k1 (TG_0 (Or.inr (Or.inl rfl))))) u5 u6 u10 (Or.inr u11) hbp0 hfp0 ⟨by rw [su_same, upd_ne _ _ (by decide)]; exact k2.1, by rw [su_same, upd_same], fun k hk => by rw [su_ne _ _ (by decide)]; exact k2.2.2.1 k hk, fun k hk => by rw [su_ne _ _ (by decide)]; exact k2.2.2.2 k hk⟩ (fun hj => ?_)
              refine (u12 hj).trans ?_
              by_cases e : t j = 59
              · rw [if_pos (Or.inl e), if_pos e, if_pos e]
              · have hno : ¬ (t j = 59 ∨ t j = (if p = 1 then 60 else 44)) := by
                  rintro (z | z)
                  · exact e z
                  · rw [if_neg (show ¬ p = 1 by omega)] at z; exact hc ⟨hj, z⟩
                exact (if_neg hno).trans (if_neg e).symm
        · exact absurd cq82 (by decide)
theorem m_X9_readsStep {l : Launch} {E : XEnv} {d : Nat} {σ : XSt} {Q : Int32 → XSt → Prop} (hG : xGl E) {N L i : Nat} {s : PS} {t : Nat → Int32} (hN : N ≤ 30) (h1N : σ 1 1 = nI N) (s0 : s.1 = 0) (hb : pBnd s) (hf : pFit s i) (hT : MT σ t L) (hi : i ≤ L) (hP : xPk σ i s.2.1 s.2.1 s.2.2.2.1 s.2.2.2.2) (h0 : ∀ (τ : XSt) (j : Nat), TG σ τ → j ≤ L → τ 0 8 = nI j → pAns L (pRm N t L i s) = nI j → Q 0 τ) (h : ∀ (τ : XSt) (j : Nat) (s2 : PS), TG σ τ → i < j → j ≤ L → pRm N t L i s = pRm N t L j s2 → (s2.1 = 1 ∨ s2.1 = 3 ∨ s2.1 = 4) → pBnd s2 → pFit s2 j → xPk τ j s2.2.1 s2.2.1 s2.2.2.2.1 (pNd s2) → (j < L → pStep N (t j) s2 = if t j = 59 then some (0, s2.2.1, s2.2.2.1, s2.2.2.2.1, pNd s2) else none) → Q 1 τ) : XMi l E (d + 3) mX9_readsStep [.ref (xad E 0)] σ Q := by
  have g0 := hG.1
  have g1 := hG.2.1
  have g2 := hG.2.2.1
  have g3 := hG.2.2.2.1
  have g4 := hG.2.2.2.2.1
  have g5 := hG.2.2.2.2.2.1
  have g6 := hG.2.2.2.2.2.2.1
  have g7 := hG.2.2.2.2.2.2.2.1
  have hL60 := hT.2.1
  have hFb := hb.2.1
  refine xr_entry (lv := [some (.ref (xad E 0)), none, none]) (by decide +kernel) (by simp [Value.category]) (Nat.le_of_ble_eq_true rfl) rfl (fun w hw cx cz => ?_)
  subst hw
  refine xr_aload_0 cx dX9_readsStep_0 ?_
  refine xr_bipush (v := 49) cx dX9_readsStep_1 (by decide) ?_
  refine xr_bipush (v := 52) cx dX9_readsStep_3 (by decide) ?_
  refine xr_V2i (ν := mX9_isHere) cx dX9_readsStep_5 rfl ml_X9_113 vf_X9_isHere g0 (Nat.le_of_ble_eq_true rfl) (m_X9_isHere hG hT hP.1 hi ?_)
  refine xr_if_ne (tgt := 13) cx dX9_readsStep_8 (by decide) (fun cq8 => ?_) (fun cq8 => ?_)
  · have hd : i < L ∧ 49 ≤ t i ∧ t i ≤ 52 := by by_cases q : i < L ∧ 49 ≤ t i ∧ t i ≤ 52; exact q; rw [if_neg q] at cq8; exact absurd rfl cq8
    obtain ⟨hlt, hdg⟩ := hd
    have hst0 : pStep N (t i) s = some ((1, s.2.1 + 1, s.2.2.1, upd s.2.2.2.1 s.2.1 (t i - 48), upd s.2.2.2.2 s.2.1 0) : PS) := (pStep_0 s0).trans (if_neg (fun q => x_line.mp q hdg))
    have hgo := pRm_go hlt hst0
    have hbp := pStep_bnd hst0 hb hf (by omega)
    refine xr_aload_0 cx dX9_readsStep_13 ?_
    refine xr_getR cx dX9_readsStep_14 fl_X9_7 g0 rfl ?_
    refine xr_iconst (v := 1) cx dX9_readsStep_17 (by decide) ?_
    refine xr_ialdN (j := 1) cx dX9_readsStep_18 g1 rfl (by decide) (by decide) ?_
    rw [h1N]
    refine xr_aload_0 cx dX9_readsStep_19 ?_
    refine xr_getI cx dX9_readsStep_20 fl_X9_120 g0 rfl ?_
    rw [hP.2.1]
    refine xr_iadd cx dX9_readsStep_23 ?_
    rw [nI_add, show N + s.2.1 = N + (s.2.1 + 1) - 1 by omega]
    refine xr_istore_1 cx dX9_readsStep_24 ?_
    refine xr_aload_0 cx dX9_readsStep_25 ?_
    refine xr_getR cx dX9_readsStep_26 fl_X9_25 g0 rfl ?_
    refine xr_aload_0 cx dX9_readsStep_29 ?_
    refine xr_getI cx dX9_readsStep_30 fl_X9_120 g0 rfl ?_
    rw [hP.2.1]
    refine xr_aload_0 cx dX9_readsStep_33 ?_
    refine xr_getR cx dX9_readsStep_34 fl_X9_22 g0 rfl ?_
    refine xr_aload_0 cx dX9_readsStep_37 ?_
    refine xr_getI cx dX9_readsStep_38 fl_X9_110 g0 rfl ?_
    rw [hP.1]
    refine xr_ialdN (j := i) cx dX9_readsStep_41 g5 rfl (by omega) (by decide) ?_
    rw [hT.2.2 i hlt]
    refine xr_bipush (v := 48) cx dX9_readsStep_42 (by decide) ?_
    refine xr_isub cx dX9_readsStep_44 ?_
    refine xr_iastN (j := s.2.1) cx dX9_readsStep_45 g6 rfl (by omega) (by decide) ?_
    refine xr_aload_0 cx dX9_readsStep_46 ?_
    refine xr_getR cx dX9_readsStep_47 fl_X9_28 g0 rfl ?_
    refine xr_aload_0 cx dX9_readsStep_50 ?_
    refine xr_getI cx dX9_readsStep_51 fl_X9_120 g0 rfl ?_
    rw [su_ne _ _ (by decide), hP.2.1]
    refine xr_iconst (v := 0) cx dX9_readsStep_54 (by decide) ?_
    refine xr_iastN (j := s.2.1) cx dX9_readsStep_55 g7 rfl (by omega) (by decide) ?_
    refine xr_aload_0 cx dX9_readsStep_56 ?_
    refine xr_dup cx dX9_readsStep_57 rfl ?_
    refine xr_getI cx dX9_readsStep_58 fl_X9_110 g0 rfl ?_
    rw [su_ne _ _ (by decide), su_ne _ _ (by decide), hP.1]
    refine xr_iconst (v := 1) cx dX9_readsStep_61 (by decide) ?_
    refine xr_iadd cx dX9_readsStep_62 ?_
    rw [nI_1]
    refine xr_putI cx dX9_readsStep_63 fp_X9_110 g0 rfl ?_
    refine xr_gen (fun ρ => TG σ ρ ∧ xPk ρ (i + 1) s.2.1 (s.2.1 + 1) (upd s.2.2.2.1 s.2.1 (t i - 48)) (upd s.2.2.2.2 s.2.1 0)) ⟨TG_tr TG_6 (TG_tr TG_7 (TG_0 (Or.inl rfl))), by rw [su_same, upd_same], by rw [su_same, upd_ne _ _ (by decide), su_ne _ _ (by decide), su_ne _ _ (by decide)]; exact hP.2.1, fun k hk => ?_, fun k hk => ?_⟩ (fun ρ hr => ?_)
    · rw [su_ne _ _ (by decide), su_ne _ _ (by decide), su_same]
      by_cases e : k = s.2.1
      · subst e; rw [upd_same, upd_same]
      · rw [upd_ne _ _ e, upd_ne _ _ e]; exact hP.2.2.1 k (by omega)
    · rw [su_ne _ _ (by decide), su_same, su_ne _ _ (by decide)]
      by_cases e : k = s.2.1
      · subst e; rw [upd_same, upd_same]
      · rw [upd_ne _ _ e, upd_ne _ _ e]; exact hP.2.2.2 k (by omega)
    obtain ⟨k1, k2⟩ := hr
    have hTr := MT_TG hT k1
    have hpn : pNd ((1, s.2.1 + 1, s.2.2.1, upd s.2.2.2.1 s.2.1 (t i - 48), upd s.2.2.2.2 s.2.1 0) : PS) = upd s.2.2.2.2 s.2.1 0 := if_neg (show ¬ ((1 : Nat) = 3 ∨ (1 : Nat) = 4) by decide)
    have hE1 : pEnd N (t (i + 1)) ((1, s.2.1 + 1, s.2.2.1, upd s.2.2.2.1 s.2.1 (t i - 48), upd s.2.2.2.2 s.2.1 0) : PS) := pEnd_of (show (1 : Nat) ≠ 0 by decide) (show (1 : Nat) ≠ 2 by decide) (fun z => absurd (show (1 : Nat) = 3 from z.1) (by decide))
    by_cases hc : i + 1 < L ∧ t (i + 1) = 60
    · refine xr_aload_0 cx dX9_readsStep_66 ?_
      refine xr_bipush (v := 60) cx dX9_readsStep_67 (by decide) ?_
      refine xr_V1i (ν := mX9_takes) cx dX9_readsStep_69 rfl ml_X9_123 vf_X9_takes g0 (Nat.le_of_ble_eq_true rfl) (m_X9_takes_y hG hTr k2.1 (by omega) hc ?_)
      refine xr_istore_2 cx dX9_readsStep_72 ?_
      have hst : pStep N (t (i + 1)) ((1, s.2.1 + 1, s.2.2.1, upd s.2.2.2.1 s.2.1 (t i - 48), upd s.2.2.2.2 s.2.1 0) : PS) = some ((2, s.2.1 + 1, s.2.2.1, upd s.2.2.2.1 s.2.1 (t i - 48), upd s.2.2.2.2 s.2.1 0) : PS) := hE1.trans (by rw [hc.2, if_pos (Or.inr (if_pos rfl).symm), if_neg (show ¬ (60 : Int32) = 59 by decide)]; exact congrArg some (by rw [hpn]))
      have hgo2 := hgo.trans (pRm_go hc.1 hst)
      have hbp2 := pStep_bnd hst hbp.1 hbp.2 (by omega)
      exact lp_X9_readsStep hG hN cx cz (L + 1) (i + 1 + 1) ((2, s.2.1 + 1, s.2.2.1, upd s.2.2.2.1 s.2.1 (t i - 48), upd s.2.2.2.2 s.2.1 0) : PS) (by omega) rfl (Nat.le_add_left _ _) hbp2.1 hbp2.2 (MT_TG hTr (TG_0 (Or.inl rfl))) (by omega) ⟨by rw [su_same, upd_same], by rw [su_same, upd_ne _ _ (by decide)]; exact k2.2.1, fun k hk => by rw [su_ne _ _ (by decide)]; exact k2.2.2.1 k hk, fun k hk => by rw [su_ne _ _ (by decide)]; exact k2.2.2.2 k hk⟩
        (fun τ u g a b e => h0 τ u (TG_tr k1 (TG_tr (TG_0 (Or.inl rfl)) g)) a b (by rw [hgo2]; exact e))
        (fun τ u s3 g a b e c1 c2 c3 c4 c5 => h τ u s3 (TG_tr k1 (TG_tr (TG_0 (Or.inl rfl)) g)) (by omega) b (by rw [hgo2]; exact e) c1 c2 c3 c4 c5)
    · refine xr_aload_0 cx dX9_readsStep_66 ?_
      refine xr_bipush (v := 60) cx dX9_readsStep_67 (by decide) ?_
      refine xr_V1i (ν := mX9_takes) cx dX9_readsStep_69 rfl ml_X9_123 vf_X9_takes g0 (Nat.le_of_ble_eq_true rfl) (m_X9_takes_n hG hTr k2.1 (by omega) hc ?_)
      refine xr_istore_2 cx dX9_readsStep_72 ?_
      refine lp_X9_rs_end hG cx cz (F := s.2.1 + 1) (Nat.le_add_left _ _) (by rw [Nat.add_sub_cancel]; exact k2.2.1) ?_
      refine h _ (i + 1) ((1, s.2.1 + 1, s.2.2.1, upd s.2.2.2.1 s.2.1 (t i - 48), upd s.2.2.2.2 s.2.1 0) : PS) (TG_tr k1 (TG_0 (Or.inr (Or.inl rfl)))) (by omega) (by omega) hgo (Or.inl rfl) hbp.1 hbp.2 ⟨by rw [su_same, upd_ne _ _ (by decide)]; exact k2.1, by rw [su_same, upd_same], fun k hk => by rw [su_ne _ _ (by decide)]; exact k2.2.2.1 k hk, fun k hk => by rw [su_ne _ _ (by decide), hpn]; exact k2.2.2.2 k hk⟩ (fun hj => ?_)
      refine hE1.trans ?_
      by_cases e : t (i + 1) = 59
      · rw [if_pos (Or.inl e), if_pos e, if_pos e]
      · have hno : ¬ (t (i + 1) = 59 ∨ t (i + 1) = (if (1 : Nat) = 1 then 60 else 44)) := by
          rintro (z | z)
          · exact e z
          · exact hc ⟨hj, z.trans (if_pos rfl)⟩
        exact (if_neg hno).trans (if_neg e).symm
  · have hd : ¬ (i < L ∧ 49 ≤ t i ∧ t i ≤ 52) := fun q => by rw [if_pos q] at cq8; exact absurd cq8 (by decide)
    have hfa : pAns L (pRm N t L i s) = nI i := by
      rcases Nat.lt_or_ge i L with q | q
      · rw [pRm_no q (by rw [pStep_0 s0, if_pos (x_line.mpr (fun z => hd ⟨q, z⟩))])]; rfl
      · obtain rfl : i = L := by omega
        rw [pRm_end]; exact if_pos (Or.inl s0)
    refine xr_iconst (v := 0) cx dX9_readsStep_11 (by decide) ?_
    refine xr_zret cx cz dX9_readsStep_12 rfl rfl ?_
    exact h0 σ i (TG_rf σ) hi hP.1 hfa
theorem lp_X9_fault {E : XEnv} {d N L : Nat} {t : Nat → Int32} {Q : Int32 → XSt → Prop} {w : XO} (hG : xGl E) (hN : N ≤ 30) (cx : CX (d + 4) w E mX9_fault) (cz : CZi w E Q) : ∀ (n i : Nat) (s : PS) {σ : XSt}, L - i < n → s.1 = 0 → pBnd s → pFit s i → MT σ t L → i ≤ L → σ 1 1 = nI N → xPk σ i s.2.1 s.2.1 s.2.2.2.1 s.2.2.2.2 → (∀ (τ : XSt) (j : Nat), TG σ τ → j ≤ L → pAns L (pRm N t L i s) = nI j → Q (nI j) τ) → (∀ (τ : XSt) (q : PS), TG σ τ → pRm N t L i s = .inr q → ¬ (q.1 = 0 ∨ q.1 = 2) → τ 0 11 = nI q.2.1 → (∀ k, k < q.2.1 → τ 6 k = q.2.2.2.1 k) → (∀ k, k < q.2.1 → τ 7 k = pNd q k) → Q (-5) τ) → XG w E 12 [some (.ref (xad E 0)), some (.int 1)] [] σ := by
  have g0 := hG.1
  have g1 := hG.2.1
  have g2 := hG.2.2.1
  have g3 := hG.2.2.2.1
  have g4 := hG.2.2.2.2.1
  have g5 := hG.2.2.2.2.2.1
  have g6 := hG.2.2.2.2.2.2.1
  have g7 := hG.2.2.2.2.2.2.2.1
  intro n
  induction n with
  | zero =>
    intro i s σ hn
    exact absurd hn (Nat.not_lt_zero _)
  | succ n ih =>
    intro i s σ hn s0 hb hf hT hi h1N hP h0 h1
    have hL60 := hT.2.1
    refine xr_iload_1 cx dX9_fault_12 ?_
    refine xr_if_eq (tgt := 38) cx dX9_fault_13 (by decide) (fun cq13 => ?_) (fun cq13 => ?_)
    · exact absurd cq13 (by decide)
    · refine xr_aload_0 cx dX9_fault_16 ?_
      refine xr_V0i (ν := mX9_readsStep) cx dX9_fault_17 rfl ml_X9_129 vf_X9_readsStep g0 (Nat.le_of_ble_eq_true rfl) (m_X9_readsStep hG hN h1N s0 hb hf hT hi hP (fun τ j u1 u2 u3 u4 => ?_) (fun ρ j s2 u1 u2 u3 u4 u5 u6 u7 u8 u9 => ?_))
      · refine xr_if_ne (tgt := 28) cx dX9_fault_20 (by decide) (fun cq20 => ?_) (fun cq20 => ?_)
        · exact absurd rfl cq20
        · refine xr_aload_0 cx dX9_fault_23 ?_
          refine xr_getI cx dX9_fault_24 fl_X9_110 g0 rfl ?_
          rw [u3]
          refine xr_iret cx cz dX9_fault_27 rfl ?_
          exact h0 τ j u1 u2 u4
      · refine xr_if_ne (tgt := 28) cx dX9_fault_20 (by decide) (fun cq20 => ?_) (fun cq20 => ?_)
        · have hTr := MT_TG hT u1
          by_cases hc : j < L ∧ t j = 59
          · refine xr_aload_0 cx dX9_fault_28 ?_
            refine xr_bipush (v := 59) cx dX9_fault_29 (by decide) ?_
            refine xr_V1i (ν := mX9_takes) cx dX9_fault_31 rfl ml_X9_123 vf_X9_takes g0 (Nat.le_of_ble_eq_true rfl) (m_X9_takes_y hG hTr u8.1 u3 hc ?_)
            refine xr_istore_1 cx dX9_fault_34 ?_
            refine xr_goto (tgt := 12) cx dX9_fault_35 (by decide) ?_
            have hst := (u9 hc.1).trans (if_pos hc.2)
            have hbp := pStep_bnd hst u6 u7 (by omega)
            have hgo := u4.trans (pRm_go hc.1 hst)
            exact ih (j + 1) (0, s2.2.1, s2.2.2.1, s2.2.2.2.1, pNd s2) (by omega) rfl hbp.1 hbp.2 (MT_TG hTr (TG_0 (Or.inl rfl))) (by omega) (by rw [su_ne _ _ (by decide), u1.1 1 (by decide) (by decide) (by decide)]; exact h1N) ⟨by rw [su_same, upd_same], by rw [su_same, upd_ne _ _ (by decide)]; exact u8.2.1, fun k hk => by rw [su_ne _ _ (by decide)]; exact u8.2.2.1 k hk, fun k hk => by rw [su_ne _ _ (by decide)]; exact u8.2.2.2 k hk⟩
              (fun τ v g a e => h0 τ v (TG_tr u1 (TG_tr (TG_0 (Or.inl rfl)) g)) a (by rw [hgo]; exact e))
              (fun τ q g e c1 c2 c3 c4 => h1 τ q (TG_tr u1 (TG_tr (TG_0 (Or.inl rfl)) g)) (by rw [hgo]; exact e) c1 c2 c3 c4)
          · refine xr_aload_0 cx dX9_fault_28 ?_
            refine xr_bipush (v := 59) cx dX9_fault_29 (by decide) ?_
            refine xr_V1i (ν := mX9_takes) cx dX9_fault_31 rfl ml_X9_123 vf_X9_takes g0 (Nat.le_of_ble_eq_true rfl) (m_X9_takes_n hG hTr u8.1 u3 hc ?_)
            refine xr_istore_1 cx dX9_fault_34 ?_
            refine xr_goto (tgt := 12) cx dX9_fault_35 (by decide) ?_
            refine xr_iload_1 cx dX9_fault_12 ?_
            refine xr_if_eq (tgt := 38) cx dX9_fault_13 (by decide) (fun cq13 => ?_) (fun cq13 => ?_)
            · refine xr_aload_0 cx dX9_fault_38 ?_
              refine xr_getI cx dX9_fault_39 fl_X9_110 g0 rfl ?_
              rw [u8.1]
              refine xr_aload_0 cx dX9_fault_42 ?_
              refine xr_getI cx dX9_fault_43 fl_X9_107 g0 rfl ?_
              rw [hTr.1]
              refine xr_icmp_ne (tgt := 54) cx dX9_fault_46 (by decide) (fun cq46 => ?_) (fun cq46 => ?_)
              · have hjL : j < L := by
                  have : j ≠ L := fun q => cq46 (by rw [q])
                  omega
                refine xr_aload_0 cx dX9_fault_54 ?_
                refine xr_getI cx dX9_fault_55 fl_X9_110 g0 rfl ?_
                rw [u8.1]
                refine xr_iret cx cz dX9_fault_58 rfl ?_
                first | exact h0 ρ j u1 u3 (by rw [u4, pRm_no hjL ((u9 hjL).trans (if_neg (fun z => hc ⟨hjL, z⟩)))]; rfl) | exact h1 ρ s2 u1 (u4.trans pRm_end) (by omega) u8.2.1 u8.2.2.1 u8.2.2.2
              · obtain rfl : j = L := nI_inj (by omega) (by omega) cq46
                refine xr_bipush (v := -5) cx dX9_fault_49 (by decide) ?_
                refine xr_goto (tgt := 58) cx dX9_fault_51 (by decide) ?_
                refine xr_iret cx cz dX9_fault_58 rfl ?_
                first | exact h0 ρ j u1 u3 (by rw [u4, pRm_no hjL ((u9 hjL).trans (if_neg (fun z => hc ⟨hjL, z⟩)))]; rfl) | exact h1 ρ s2 u1 (u4.trans pRm_end) (by omega) u8.2.1 u8.2.2.1 u8.2.2.2
            · exact absurd rfl cq13
        · exact absurd cq20 (by decide)
theorem m_X9_fault {l : Launch} {E : XEnv} {d : Nat} {σ : XSt} {Q : Int32 → XSt → Prop} (hG : xGl E) {N L : Nat} {t ln nd : Nat → Int32} {num : Int32} (hN : N ≤ 30) (h1N : σ 1 1 = nI N) (hT : MT σ t L) (h0 : ∀ (τ : XSt) (j : Nat), TG σ τ → j ≤ L → pAns L (pRm N t L 0 (0, 0, num, ln, nd)) = nI j → Q (nI j) τ) (h : ∀ (τ : XSt) (q : PS), TG σ τ → pRm N t L 0 (0, 0, num, ln, nd) = .inr q → ¬ (q.1 = 0 ∨ q.1 = 2) → τ 0 11 = nI q.2.1 → (∀ k, k < q.2.1 → τ 6 k = q.2.2.2.1 k) → (∀ k, k < q.2.1 → τ 7 k = pNd q k) → Q (-5) τ) : XMi l E (d + 4) mX9_fault [.ref (xad E 0)] σ Q := by
  have g0 := hG.1
  have g1 := hG.2.1
  have g2 := hG.2.2.1
  have g3 := hG.2.2.2.1
  have g4 := hG.2.2.2.2.1
  have g5 := hG.2.2.2.2.2.1
  have g6 := hG.2.2.2.2.2.2.1
  have g7 := hG.2.2.2.2.2.2.2.1
  refine xr_entry (lv := [some (.ref (xad E 0)), none]) (by decide +kernel) (by simp [Value.category]) (Nat.le_of_ble_eq_true rfl) rfl (fun w hw cx cz => ?_)
  subst hw
  refine xr_aload_0 cx dX9_fault_0 ?_
  refine xr_iconst (v := 0) cx dX9_fault_1 (by decide) ?_
  refine xr_putI cx dX9_fault_2 fp_X9_110 g0 rfl ?_
  refine xr_aload_0 cx dX9_fault_5 ?_
  refine xr_iconst (v := 0) cx dX9_fault_6 (by decide) ?_
  refine xr_putI cx dX9_fault_7 fp_X9_120 g0 rfl ?_
  refine xr_iconst (v := 1) cx dX9_fault_10 (by decide) ?_
  refine xr_istore_1 cx dX9_fault_11 ?_
  exact lp_X9_fault hG hN cx cz (L + 1) 0 (0, 0, num, ln, nd) (by omega) rfl ⟨Nat.zero_le _, Nat.zero_le _, fun z => absurd rfl z⟩ (by unfold pFit; rw [if_pos rfl]; exact Nat.zero_le _) (MT_TG hT (TG_tr (TG_0 (Or.inl rfl)) (TG_0 (Or.inr (Or.inl rfl))))) (Nat.zero_le _) (by rw [su_ne _ _ (by decide), su_ne _ _ (by decide)]; exact h1N) ⟨by rw [su_same, upd_ne _ _ (by decide), su_same, upd_same]; rfl, by rw [su_same, upd_same]; rfl, fun k hk => absurd hk (Nat.not_lt_zero k), fun k hk => absurd hk (Nat.not_lt_zero k)⟩ (fun τ j g a b => h0 τ j (TG_tr (TG_tr (TG_0 (Or.inl rfl)) (TG_0 (Or.inr (Or.inl rfl)))) g) a b) (fun τ q g a b c e f => h τ q (TG_tr (TG_tr (TG_0 (Or.inl rfl)) (TG_0 (Or.inr (Or.inl rfl)))) g) a b c e f)
