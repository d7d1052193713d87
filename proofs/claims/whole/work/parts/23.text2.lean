def pFit (s : PS) (i : Nat) : Prop := if s.1 = 0 then 2 * s.2.1 ≤ i else 2 * s.2.1 ≤ i + 1
theorem pStep_bnd {N : Nat} {c : Int32} {s q : PS} {i : Nat} (h : pStep N c s = some q) (hb : pBnd s) (hf : pFit s i) (hi : i < 60) : pBnd q ∧ pFit q (i + 1) := by
  obtain ⟨b1, b2, b3⟩ := hb
  unfold pFit at hf ⊢
  unfold pStep at h
  by_cases h0 : s.1 = 0
  · rw [if_pos h0] at h hf
    split at h
    · cases h
    · cases h
      exact ⟨⟨by show 1 ≤ 4; decide, by show s.2.1 + 1 ≤ 30; omega, fun _ => by show 1 ≤ s.2.1 + 1; omega⟩, by show (if (1 : Nat) = 0 then _ else 2 * (s.2.1 + 1) ≤ i + 1 + 1); rw [if_neg (by decide)]; omega⟩
  · rw [if_neg h0] at h hf
    have b4 := b3 h0
    by_cases h2 : s.1 = 2
    · rw [if_pos h2] at h
      split at h
      · cases h
      · cases h
        have e : (if c - 48 = 0 then 4 else 3 : Nat) ≤ 4 ∧ (if c - 48 = 0 then 4 else 3 : Nat) ≠ 0 := by split <;> decide
        exact ⟨⟨e.1, b2, fun _ => b4⟩, by show (if (if c - 48 = 0 then 4 else 3 : Nat) = 0 then _ else 2 * s.2.1 ≤ i + 1 + 1); rw [if_neg e.2]; omega⟩
    · rw [if_neg h2] at h
      by_cases h3 : s.1 = 3 ∧ (48 ≤ c ∧ c ≤ 57)
      · rw [if_pos h3] at h
        split at h
        · cases h
        · cases h
          exact ⟨⟨by show 4 ≤ 4; decide, b2, fun _ => b4⟩, by show (if (4 : Nat) = 0 then _ else 2 * s.2.1 ≤ i + 1 + 1); rw [if_neg (by decide)]; omega⟩
      · rw [if_neg h3] at h
        by_cases hm : c = 59 ∨ c = (if s.1 = 1 then 60 else 44)
        · rw [if_pos hm] at h
          cases h
          refine ⟨⟨by show (if c = 59 then 0 else 2 : Nat) ≤ 4; split <;> decide, b2, fun _ => b4⟩, ?_⟩
          show (if (if c = 59 then 0 else 2 : Nat) = 0 then 2 * s.2.1 ≤ i + 1 else 2 * s.2.1 ≤ i + 1 + 1)
          by_cases c59 : c = 59
          · rw [if_pos c59, if_pos rfl]; omega
          · rw [if_neg c59, if_neg (by decide)]; omega
        · rw [if_neg hm] at h; cases h
def pAns (L : Nat) (r : Nat ⊕ PS) : Int32 := match r with
  | .inl i => nI i
  | .inr s => if s.1 = 0 ∨ s.1 = 2 then nI L else -1
def pPost (τ : XSt) (r : Nat ⊕ PS) : Prop := ∀ q, r = .inr q → ¬ (q.1 = 0 ∨ q.1 = 2) → τ 158 2 = nI q.2.1 ∧ τ 160 = q.2.2.2.1 ∧ τ 162 = pNd q ∧ q.2.1 ≤ 30
theorem lp_X4_read {E : XEnv} {d N L : Nat} {t : Nat → Int32} {fs : Option Value} {Q : Int32 → XSt → Prop} {w : XO} (hG : xGl E) (hL60 : L ≤ 60) (cx : CX (d + 4) w E mX4_read) (cz : CZi w E Q) : ∀ n i {σ : XSt} {s : PS}, i + n = L → CT σ N s → pBnd s → pFit s i → σ 158 3 = nI L → σ 163 = t → (∀ τ, TF σ τ → pPost τ (pRun N t n i s) → Q (pAns L (pRun N t n i s)) τ) → XG w E 17 [some (.ref (xad E 158)), fs, some (.int (nI i))] [] σ := by
  obtain ⟨g0, g1, g2, g3, g4, g5, g6, g7, g8, g72, g73, g158, g159, g160, g161, g162, g163, L9, L30, L51, L74, L95, L116, L137⟩ := id hG
  intro n
  induction n with
  | zero =>
    intro i σ s hi hT hb hf hL hc h
    obtain ⟨t2, t5, t6, t7, tl, tn⟩ := id hT
    obtain ⟨b1, b2, b3⟩ := id hb
    refine xr_iload_2 cx dX4_read_17 ?_
    refine xr_aload_0 cx dX4_read_18 ?_
    refine xr_getI cx dX4_read_19 fl_X4_27 g158 rfl ?_
    rw [hL]
    refine xr_icmp_ge (tgt := 55) cx dX4_read_22 (by decide) (fun cq22 => ?_) (fun cq22 => ?_)
    · refine xr_aload_0 cx dX4_read_55 ?_
      refine xr_getI cx dX4_read_56 fl_X4_37 g158 rfl ?_
      rw [t5]
      refine xr_if_eq (tgt := 70) cx dX4_read_59 (by decide) (fun cq59 => ?_) (fun cq59 => ?_)
      · have h0 : s.1 = 0 := nI_inj (by omega) (by decide) cq59
        refine xr_aload_0 cx dX4_read_70 ?_
        refine xr_getI cx dX4_read_71 fl_X4_27 g158 rfl ?_
        rw [hL]
        have hz : s.1 = 0 ∨ s.1 = 2 := by first | exact Or.inl h0 | exact Or.inr h2
        refine xr_iret cx cz dX4_read_74 rfl ?_
        have h4 := h σ (TF_rf σ) (fun q hq hn => by cases hq; exact absurd hz hn)
        rw [show pAns L (pRun N t 0 i s) = nI L from if_pos hz] at h4
        exact h4
      · have h0 : s.1 ≠ 0 := fun q => cq59 (by rw [q]; rfl)
        refine xr_aload_0 cx dX4_read_62 ?_
        refine xr_getI cx dX4_read_63 fl_X4_37 g158 rfl ?_
        refine xr_iconst (v := 2) cx dX4_read_66 (by decide) ?_
        rw [t5]
        refine xr_icmp_ne (tgt := 75) cx dX4_read_67 (by decide) (fun cq67 => ?_) (fun cq67 => ?_)
        · have h2 : s.1 ≠ 2 := fun q => cq67 (by rw [q]; rfl)
          refine xr_aload_0 cx dX4_read_75 ?_
          refine xr_V0v (ν := mX4_endNumber) cx dX4_read_76 rfl ml_X4_44 vf_X4_endNumber g158 (Nat.le_of_ble_eq_true rfl) (m_X4_endNumber hG hT hb ?_)
          refine xr_iconst (v := -1) cx dX4_read_79 (by decide) ?_
          refine xr_iret cx cz dX4_read_80 rfl ?_
          have hz : ¬ (s.1 = 0 ∨ s.1 = 2) := fun q => Or.elim q h0 h2
          have h4 := h (su σ 162 (pNd s)) TF_n (fun q hq hn => by cases hq; exact ⟨by rw [su_ne _ _ (by decide)]; exact t2, by rw [su_ne _ _ (by decide)]; exact tl, by rw [su_same], b2⟩)
          rw [show pAns L (pRun N t 0 i s) = -1 from if_neg hz] at h4
          exact h4
        · have h2 : s.1 = 2 := nI_inj (by omega) (by decide) cq67
          refine xr_aload_0 cx dX4_read_70 ?_
          refine xr_getI cx dX4_read_71 fl_X4_27 g158 rfl ?_
          rw [hL]
          have hz : s.1 = 0 ∨ s.1 = 2 := by first | exact Or.inl h0 | exact Or.inr h2
          refine xr_iret cx cz dX4_read_74 rfl ?_
          have h4 := h σ (TF_rf σ) (fun q hq hn => by cases hq; exact absurd hz hn)
          rw [show pAns L (pRun N t 0 i s) = nI L from if_pos hz] at h4
          exact h4
    · exact absurd (nI_le (a := L) (b := i) (by omega) (by omega)) cq22
  | succ n ih =>
    intro i σ s hi hT hb hf hL hc h
    obtain ⟨t2, t5, t6, t7, tl, tn⟩ := id hT
    obtain ⟨b1, b2, b3⟩ := id hb
    refine xr_iload_2 cx dX4_read_17 ?_
    refine xr_aload_0 cx dX4_read_18 ?_
    refine xr_getI cx dX4_read_19 fl_X4_27 g158 rfl ?_
    rw [hL]
    refine xr_icmp_ge (tgt := 55) cx dX4_read_22 (by decide) (fun cq22 => ?_) (fun cq22 => ?_)
    · exact absurd cq22 (nI_ge (a := i) (b := L) (by omega) (by omega))
    · refine xr_iload_2 cx dX4_read_25 ?_
      refine xr_aload_0 cx dX4_read_26 ?_
      refine xr_getR cx dX4_read_27 fl_X4_23 g158 rfl ?_
      refine xr_alen cx dX4_read_30 g163 (by decide) ?_
      refine xr_icmp_ge (tgt := 55) cx dX4_read_31 (by decide) (fun cq31 => ?_) (fun cq31 => ?_)
      · exact absurd cq31 (nI_ge (a := i) (b := 60) (by omega) (by decide))
      · refine xr_aload_0 cx dX4_read_34 ?_
        refine xr_aload_0 cx dX4_read_35 ?_
        refine xr_getR cx dX4_read_36 fl_X4_23 g158 rfl ?_
        refine xr_iload_2 cx dX4_read_39 ?_
        refine xr_cald cx dX4_read_40 g163 (vp_in_nI (show i < 60 by omega) (by decide)) ?_
        rw [nI_clamp (by omega), hc]
        refine xr_V1i (ν := mX4_takes) cx dX4_read_41 rfl ml_X4_40 vf_X4_takes g158 (Nat.le_of_ble_eq_true rfl) (m_X4_takes hG hT hb (fun q => by unfold pFit at hf; rw [if_pos q] at hf; omega) (fun τ ht hq => ?_))
        refine xr_if_ne (tgt := 49) cx dX4_read_44 (by decide) (fun cq44 => ?_) (fun cq44 => ?_)
        · cases hs : pStep N (t i) s with
          | none => rw [hs] at cq44; exact absurd rfl cq44
          | some q =>
            have hbq := pStep_bnd hs hb hf (by omega)
            rw [show pRun N t (n + 1) i s = pRun N t n (i + 1) q by rw [pRun, hs]] at h
            refine xr_iinc_2 (y := 1) cx dX4_read_49 (by decide) ?_
            refine xr_goto (tgt := 17) cx dX4_read_52 (by decide) ?_
            rw [nI_1]
            exact ih (i + 1) (by omega) (hq q hs) hbq.1 hbq.2 (ht.2.trans hL) ((ht.1 163 (by decide) (by decide) (by decide)).trans hc) (fun ρ r1 r2 => h ρ (TF_tr ht r1) r2)
          skip
        · have hs : pStep N (t i) s = none := by
            cases hs : pStep N (t i) s with
            | none => rfl
            | some q => rw [hs] at cq44; exact absurd (show (1 : Int32) = 0 from cq44) (by decide)
          rw [show pRun N t (n + 1) i s = .inl i by rw [pRun, hs]] at h
          refine xr_iload_2 cx dX4_read_47 ?_
          refine xr_iret cx cz dX4_read_48 rfl ?_
          exact h τ ht (fun q hq => by cases hq)
theorem m_X4_read {l : Launch} {E : XEnv} {d : Nat} {σ : XSt} {Q : Int32 → XSt → Prop} (hG : xGl E) {N L : Nat} (hL60 : L ≤ 60) (hL : σ 158 3 = nI L) (h : ∀ τ, TF σ τ → pPost τ (pRun N (σ 163) L 0 (0, 0, σ 158 7, σ 160, σ 162)) → Q (pAns L (pRun N (σ 163) L 0 (0, 0, σ 158 7, σ 160, σ 162))) τ) : XMi l E (d + 4) mX4_read [.ref (xad E 158), .int (nI N)] σ Q := by
  obtain ⟨g0, g1, g2, g3, g4, g5, g6, g7, g8, g72, g73, g158, g159, g160, g161, g162, g163, L9, L30, L51, L74, L95, L116, L137⟩ := id hG
  refine xr_entry (lv := [some (.ref (xad E 158)), some (.int (nI N)), none]) (by decide +kernel) (by simp [Value.category]) (Nat.le_of_ble_eq_true rfl) rfl (fun w hw cx cz => ?_)
  subst hw
  refine xr_aload_0 cx dX4_read_0 ?_
  refine xr_iload_1 cx dX4_read_1 ?_
  refine xr_putI cx dX4_read_2 fp_X4_31 g158 rfl ?_
  refine xr_aload_0 cx dX4_read_5 ?_
  refine xr_iconst (v := 0) cx dX4_read_6 (by decide) ?_
  refine xr_putI cx dX4_read_7 fp_X4_34 g158 rfl ?_
  refine xr_aload_0 cx dX4_read_10 ?_
  refine xr_iconst (v := 0) cx dX4_read_11 (by decide) ?_
  refine xr_putI cx dX4_read_12 fp_X4_37 g158 rfl ?_
  refine xr_iconst (v := 0) cx dX4_read_15 (by decide) ?_
  refine xr_istore_2 cx dX4_read_16 ?_
  refine lp_X4_read (L := L) (N := N) (t := σ 163) hG hL60 cx cz L 0 (s := (0, 0, σ 158 7, σ 160, σ 162)) (by omega) ?_ ⟨Nat.zero_le _, Nat.zero_le _, fun q => absurd rfl q⟩ (by unfold pFit; rw [if_pos rfl]; exact Nat.zero_le _) ?_ ?_ (fun τ ht hp => h τ (TF_tr (TF_tr (TF_tr (TF_o (by decide)) (TF_o (by decide))) (TF_o (by decide))) ht) hp)
  · refine ⟨?_, ?_, ?_, ?_, ?_, ?_⟩ <;> simp (disch := decide) only [su_same, su_ne, upd_same, upd_ne] <;> rfl
  · simp (disch := decide) only [su_same, su_ne, upd_same, upd_ne]
    exact hL
  · simp (disch := decide) only [su_same, su_ne]
theorem m_X4_append {l : Launch} {E : XEnv} {d : Nat} {σ : XSt} {Q : XSt → Prop} (hG : xGl E) {c : Int32} {L : Nat} (hL : σ 158 3 = nI L) (hL60 : L < 60) (h : Q (su (su σ 163 (upd (σ 163) L (vp_nar .char c))) 158 (upd (σ 158) 3 (nI (L + 1))))) : XMv l E d mX4_append [.ref (xad E 158), .int c] σ Q := by
  obtain ⟨g0, g1, g2, g3, g4, g5, g6, g7, g8, g72, g73, g158, g159, g160, g161, g162, g163, L9, L30, L51, L74, L95, L116, L137⟩ := id hG
  refine xr_entry (lv := [some (.ref (xad E 158)), some (.int c)]) (by decide +kernel) (by simp [Value.category]) (Nat.le_of_ble_eq_true rfl) rfl (fun w hw cx cz => ?_)
  subst hw
  refine xr_aload_0 cx dX4_append_0 ?_
  refine xr_getI cx dX4_append_1 fl_X4_27 g158 rfl ?_
  rw [hL]
  refine xr_if_lt (tgt := 39) cx dX4_append_4 (by decide) (fun cq4 => ?_) (fun cq4 => ?_)
  · exact absurd cq4 (nI_pos (by omega))
  · refine xr_aload_0 cx dX4_append_7 ?_
    refine xr_getI cx dX4_append_8 fl_X4_27 g158 rfl ?_
    refine xr_aload_0 cx dX4_append_11 ?_
    refine xr_getR cx dX4_append_12 fl_X4_23 g158 rfl ?_
    refine xr_alen cx dX4_append_15 g163 (by decide) ?_
    rw [hL]
    refine xr_icmp_ge (tgt := 39) cx dX4_append_16 (by decide) (fun cq16 => ?_) (fun cq16 => ?_)
    · exact absurd cq16 (nI_ge (a := L) (b := 60) hL60 (by decide))
    · refine xr_aload_0 cx dX4_append_19 ?_
      refine xr_getR cx dX4_append_20 fl_X4_23 g158 rfl ?_
      refine xr_aload_0 cx dX4_append_23 ?_
      refine xr_getI cx dX4_append_24 fl_X4_27 g158 rfl ?_
      refine xr_iload_1 cx dX4_append_27 ?_
      rw [hL]
      refine xr_cast cx dX4_append_28 g163 (vp_in_nI hL60 (by decide)) ?_
      rw [nI_clamp (by omega)]
      refine xr_aload_0 cx dX4_append_29 ?_
      refine xr_dup cx dX4_append_30 rfl ?_
      refine xr_getI cx dX4_append_31 fl_X4_27 g158 rfl ?_
      refine xr_iconst (v := 1) cx dX4_append_34 (by decide) ?_
      refine xr_iadd cx dX4_append_35 ?_
      refine xr_putI cx dX4_append_36 fp_X4_27 g158 rfl ?_
      refine xr_vret cx cz dX4_append_39 rfl ?_
      refine q_s h ?_
      rw [su_ne _ _ (by decide), hL, nI_1]
theorem m_X8_type {l : Launch} {E : XEnv} {d : Nat} {σ : XSt} {Q : Int32 → XSt → Prop} {c : Int32} {L : Nat} (hG : xGl E) (hL : σ 158 3 = nI L) (hL60 : L ≤ 60) (h : (L = 60 → Q (-3) σ) ∧ (L < 60 → Q (nI (L + 1)) (su (su σ 163 (upd (σ 163) L (vp_nar .char c))) 158 (upd (σ 158) 3 (nI (L + 1)))))) : XMi l E (d + 1) mX8_type [.ref (xad E 8), .int c] σ Q := by
  obtain ⟨g0, g1, g2, g3, g4, g5, g6, g7, g8, g72, g73, g158, g159, g160, g161, g162, g163, L9, L30, L51, L74, L95, L116, L137⟩ := id hG
  refine xr_entry (lv := [some (.ref (xad E 8)), some (.int c)]) (by decide +kernel) (by simp [Value.category]) (Nat.le_of_ble_eq_true rfl) rfl (fun w hw cx cz => ?_)
  subst hw
  refine xr_aload_0 cx dX8_type_0 ?_
  refine xr_getR cx dX8_type_1 fl_X8_32 g8 rfl ?_
  refine xr_getI cx dX8_type_4 fl_X8_151 g158 rfl ?_
  refine xr_bipush (v := 60) cx dX8_type_7 (by decide) ?_
  rw [hL]
  refine xr_icmp_lt (tgt := 15) cx dX8_type_9 (by decide) (fun cq9 => ?_) (fun cq9 => ?_)
  · have hl : L < 60 := (nI_ltI (by omega) (by decide)).mp (show nI L < nI 60 from cq9)
    refine xr_aload_0 cx dX8_type_15 ?_
    refine xr_getR cx dX8_type_16 fl_X8_32 g8 rfl ?_
    refine xr_iload_1 cx dX8_type_19 ?_
    refine xr_V1v (ν := mX4_append) cx dX8_type_20 rfl ml_X8_154 vf_X4_append g158 (Nat.le_of_ble_eq_true rfl) (m_X4_append hG hL hl ?_)
    refine xr_aload_0 cx dX8_type_23 ?_
    refine xr_getR cx dX8_type_24 fl_X8_32 g8 rfl ?_
    refine xr_getI cx dX8_type_27 fl_X8_151 g158 rfl ?_
    refine xr_iret cx cz dX8_type_30 rfl ?_
    exact q_i (h.2 hl) (by rw [su_same, upd_same])
  · have hl : L = 60 := by
      rcases Nat.lt_or_ge L 60 with q | q
      · exact absurd (show nI L < nI 60 from nI_lt q (by decide)) cq9
      · omega
    refine xr_bipush (v := -3) cx dX8_type_12 (by decide) ?_
    refine xr_iret cx cz dX8_type_14 rfl ?_
    exact h.1 hl
theorem m_X8_clearText {l : Launch} {E : XEnv} {d : Nat} {σ : XSt} {Q : Int32 → XSt → Prop} {L : Nat} (hG : xGl E) (hL : σ 158 3 = nI L) (hL60 : L ≤ 60) (h : Q (nI L) (su σ 158 (upd (σ 158) 3 0))) : XMi l E (d + 1) mX8_clearText [.ref (xad E 8)] σ Q := by
  obtain ⟨g0, g1, g2, g3, g4, g5, g6, g7, g8, g72, g73, g158, g159, g160, g161, g162, g163, L9, L30, L51, L74, L95, L116, L137⟩ := id hG
  refine xr_entry (lv := [some (.ref (xad E 8)), none]) (by decide +kernel) (by simp [Value.category]) (Nat.le_of_ble_eq_true rfl) rfl (fun w hw cx cz => ?_)
  subst hw
  refine xr_aload_0 cx dX8_clearText_0 ?_
  refine xr_getR cx dX8_clearText_1 fl_X8_32 g8 rfl ?_
  refine xr_getI cx dX8_clearText_4 fl_X8_151 g158 rfl ?_
  refine xr_istore_1 cx dX8_clearText_7 ?_
  refine xr_aload_0 cx dX8_clearText_8 ?_
  refine xr_getR cx dX8_clearText_9 fl_X8_32 g8 rfl ?_
  refine xr_iconst (v := 0) cx dX8_clearText_12 (by decide) ?_
  refine xr_putI cx dX8_clearText_13 fp_X8_151 g158 rfl ?_
  refine xr_iload_1 cx dX8_clearText_16 ?_
  refine xr_iret cx cz dX8_clearText_17 rfl ?_
  exact q_i h hL
