theorem m_X8_setRoom {l : Launch} {E : XEnv} {d : Nat} {σ : XSt} {a : Nat → Int32} {hl : List (Nat → Int32)} {sn : Option (Nat → Int32)} {Q : Int32 → XSt → Prop} {x : Int32} (hG : xGl E) (hC : CRel σ a hl sn) (h : ∀ τ, CAct σ τ a hl sn (oRoom a x).2 → Q (oRoom a x).1 τ) : XMi l E (d + 5) mX8_setRoom [.ref (xad E 0), .int x] σ Q := by
  obtain ⟨g8, g72, g73, g158, g159, g160, g161, g162, g163, L9, L30, L51, L74, L95, L116, L137⟩ := id hG
  obtain ⟨na0, na1, na2, na3, na4, na5, na6, na7, na8, na9, na10, na11, na12, na13, na14, na15, na16, na17, na18, na19, na20⟩ := id L9
  obtain ⟨hR, hI, hCH, hCS⟩ := id hC
  obtain ⟨hx, hO, hN, hD, hW, hE, hA⟩ := id hI
  obtain ⟨ix1, ix2, ix3, ix4, iy1, iy2, iy3, iy4⟩ := id hx
  refine xr_entry (lv := [some (.ref (xad E 0)), some (.int x), none]) (by decide +kernel) (by simp [Value.category]) (Nat.le_of_ble_eq_true rfl) rfl (fun w hw cx cz => ?_)
  subst hw
  refine xr_iload_1 cx dX8_setRoom_0 ?_
  refine xr_iconst (v := 4) cx dX8_setRoom_1 (by decide) ?_
  refine xr_icmp_lt (tgt := 11) cx dX8_setRoom_2 (by decide) (fun cq2 => ?_) (fun cq2 => ?_)
  · refine xr_bipush (v := -2) cx dX8_setRoom_11 (by decide) ?_
    refine xr_iret cx cz dX8_setRoom_13 rfl ?_
    unfold oRoom at h
    first | (rw [if_pos (Or.inl cq2)] at h; exact h σ rfl) | (rw [if_pos (Or.inr (Int32.not_le.mp cq8))] at h; exact h σ rfl)
  · refine xr_iload_1 cx dX8_setRoom_5 ?_
    refine xr_bipush (v := 20) cx dX8_setRoom_6 (by decide) ?_
    refine xr_icmp_le (tgt := 14) cx dX8_setRoom_8 (by decide) (fun cq8 => ?_) (fun cq8 => ?_)
    · unfold oRoom at h
      rw [if_neg (fun q => Or.elim q cq2 (fun q => Int32.not_le.mpr q cq8))] at h
      refine xr_aload_0 cx dX8_setRoom_14 ?_
      refine xr_getR cx dX8_setRoom_15 fl_X8_10 g8 rfl ?_
      refine xr_V0i (ν := mX2_fullestPanel) cx dX8_setRoom_18 rfl ml_X8_40 vf_X2_fullestPanel na0 (Nat.le_of_ble_eq_true rfl) (m_X2_fullestPanel L9 hR hx hO ?_)
      refine xr_iload_1 cx dX8_setRoom_21 ?_
      refine xr_icmp_le (tgt := 28) cx dX8_setRoom_22 (by decide) (fun cq22 => ?_) (fun cq22 => ?_)
      · rw [if_neg (fun q => Int32.not_le.mpr q cq22)] at h
        refine xr_aload_0 cx dX8_setRoom_28 ?_
        refine xr_getR cx dX8_setRoom_29 fl_X8_10 g8 rfl ?_
        refine xr_getR cx dX8_setRoom_32 fl_X8_44 na0 rfl ?_
        refine xr_getI cx dX8_setRoom_35 fl_X8_48 na6 rfl ?_
        rw [RB_room hR]
        refine xr_istore_2 cx dX8_setRoom_38 ?_
        refine xr_iload_2 cx dX8_setRoom_39 ?_
        refine xr_iload_1 cx dX8_setRoom_40 ?_
        refine xr_icmp_ne (tgt := 47) cx dX8_setRoom_41 (by decide) (fun cq41 => ?_) (fun cq41 => ?_)
        · rw [if_neg cq41] at h
          refine xr_aload_0 cx dX8_setRoom_47 ?_
          refine xr_getR cx dX8_setRoom_48 fl_X8_25 g8 rfl ?_
          refine xr_aload_0 cx dX8_setRoom_51 ?_
          refine xr_getR cx dX8_setRoom_52 fl_X8_10 g8 rfl ?_
          refine xr_V1v (ν := mX1_record) cx dX8_setRoom_55 rfl ml_X8_54 vf_X1_record g72 (Nat.le_of_ble_eq_true rfl) (m_X1_record hG hC (fun τ hC1 hf1 => ?_))
          refine xr_aload_0 cx dX8_setRoom_58 ?_
          refine xr_getR cx dX8_setRoom_59 fl_X8_10 g8 rfl ?_
          refine xr_getR cx dX8_setRoom_62 fl_X8_44 na0 rfl ?_
          refine xr_iload_1 cx dX8_setRoom_65 ?_
          refine xr_putI cx dX8_setRoom_66 fp_X8_48 na6 rfl ?_
          refine xr_iload_2 cx dX8_setRoom_69 ?_
          refine xr_iret cx cz dX8_setRoom_70 rfl ?_
          exact h _ (CAct_now hC1 hf1 (RB_lo (i := 6) (j := 5) (k := 0) rfl hC1.1 (by decide) (by decide)) (xInv_ne (by omega) hI) (xfr_su _ (b := 1) (i := 6) _ (by decide)))
        · refine xr_bipush (v := -5) cx dX8_setRoom_44 (by decide) ?_
          refine xr_iret cx cz dX8_setRoom_46 rfl ?_
          rw [if_pos cq41] at h
          exact h σ rfl
      · refine xr_bipush (v := -4) cx dX8_setRoom_25 (by decide) ?_
        refine xr_iret cx cz dX8_setRoom_27 rfl ?_
        rw [if_pos (Int32.not_le.mp cq22)] at h
        exact h σ rfl
    · refine xr_bipush (v := -2) cx dX8_setRoom_11 (by decide) ?_
      refine xr_iret cx cz dX8_setRoom_13 rfl ?_
      unfold oRoom at h
      first | (rw [if_pos (Or.inl cq2)] at h; exact h σ rfl) | (rw [if_pos (Or.inr (Int32.not_le.mp cq8))] at h; exact h σ rfl)
theorem RB_add {σ : XSt} {b : Nat} {a : Nat → Int32} {x y : Int32} (h : RB σ b a) (hx : xIx a) (hn : mSt a < 30) : RB (xadd b (mSt a) x y σ) b (mPlan a x y) := by
  have h40 := hx.2.2.2.2.2.2.2
  have e1 := RB_set (i := 3) (j := mSt a) (k := 109 + mSt a) (v := x) (if_pos hn) h (mPh_upd (by omega) (by omega) h40)
  have h41 : (upd a (109 + mSt a) x 10).toNatClampNeg ≤ 40 := by rw [upd_ne _ _ (by omega)]; exact h40
  have e2 := RB_set (i := 5) (j := mSt a) (k := 139 + mSt a) (v := y) (if_pos hn) e1 (mPh_upd (by omega) (by omega) h41)
  have e3 := RB_lo (i := 1) (j := 2) (k := 1) (v := a 1 + 1) rfl e2 (by decide) (by decide)
  rw [su_near σ b _ (by decide), su_near _ b _ (by decide), su_near σ b _ (by decide)] at e3
  unfold xadd mPlan
  rw [RB_planned h]
  exact e3
theorem xfr_add {σ : XSt} {b n : Nat} {x y : Int32} : xfr σ (xadd b n x y σ) b := by
  intro k hk
  unfold xadd
  rw [su_ne _ _ (by omega), su_ne _ _ (by omega), su_ne _ _ (by omega)]
theorem xfr_take {σ : XSt} {b n : Nat} {x y : Int32} : xfr σ (xtake b n x y σ) b := by
  intro k hk
  unfold xtake
  rw [su_ne _ _ (by omega), su_ne _ _ (by omega), su_ne _ _ (by omega)]
theorem m_X8_plan {l : Launch} {E : XEnv} {d : Nat} {σ : XSt} {a : Nat → Int32} {hl : List (Nat → Int32)} {sn : Option (Nat → Int32)} {Q : Int32 → XSt → Prop} {x y : Int32} (hG : xGl E) (hC : CRel σ a hl sn) (h : ∀ τ, CAct σ τ a hl sn (oPlan a x y).2 → Q (oPlan a x y).1 τ) : XMi l E (d + 5) mX8_plan [.ref (xad E 0), .int x, .int y] σ Q := by
  obtain ⟨g8, g72, g73, g158, g159, g160, g161, g162, g163, L9, L30, L51, L74, L95, L116, L137⟩ := id hG
  obtain ⟨na0, na1, na2, na3, na4, na5, na6, na7, na8, na9, na10, na11, na12, na13, na14, na15, na16, na17, na18, na19, na20⟩ := id L9
  obtain ⟨hR, hI, hCH, hCS⟩ := id hC
  obtain ⟨hx, hO, hN, hD, hW, hE, hA⟩ := id hI
  obtain ⟨ix1, ix2, ix3, ix4, iy1, iy2, iy3, iy4⟩ := id hx
  refine xr_entry (lv := [some (.ref (xad E 0)), some (.int x), some (.int y), none]) (by decide +kernel) (by simp [Value.category]) (Nat.le_of_ble_eq_true rfl) rfl (fun w hw cx cz => ?_)
  subst hw
  refine xr_aload_0 cx dX8_plan_0 ?_
  refine xr_getR cx dX8_plan_1 fl_X8_10 g8 rfl ?_
  refine xr_getR cx dX8_plan_4 fl_X8_58 na0 rfl ?_
  refine xr_getI cx dX8_plan_7 fl_X8_62 na1 rfl ?_
  rw [RB_planned hR]
  refine xr_istore_3 cx dX8_plan_10 ?_
  refine xr_iload_1 cx dX8_plan_11 ?_
  refine xr_iconst (v := 1) cx dX8_plan_12 (by decide) ?_
  refine xr_icmp_lt (tgt := 27) cx dX8_plan_13 (by decide) (fun cq13 => ?_) (fun cq13 => ?_)
  · refine xr_bipush (v := -2) cx dX8_plan_27 (by decide) ?_
    refine xr_iret cx cz dX8_plan_29 rfl ?_
    unfold oPlan at h
    first | (rw [if_pos (Or.inl cq13)] at h; exact h σ rfl) | (rw [if_pos (Or.inr (Or.inl cq18))] at h; exact h σ rfl) | (rw [if_pos (Or.inr (Or.inr cq24))] at h; exact h σ rfl)
  · refine xr_iload_1 cx dX8_plan_16 ?_
    refine xr_iconst (v := 4) cx dX8_plan_17 (by decide) ?_
    refine xr_icmp_gt (tgt := 27) cx dX8_plan_18 (by decide) (fun cq18 => ?_) (fun cq18 => ?_)
    · refine xr_bipush (v := -2) cx dX8_plan_27 (by decide) ?_
      refine xr_iret cx cz dX8_plan_29 rfl ?_
      unfold oPlan at h
      first | (rw [if_pos (Or.inl cq13)] at h; exact h σ rfl) | (rw [if_pos (Or.inr (Or.inl cq18))] at h; exact h σ rfl) | (rw [if_pos (Or.inr (Or.inr cq24))] at h; exact h σ rfl)
    · refine xr_iload_2 cx dX8_plan_21 ?_
      refine xr_iload_3 cx dX8_plan_22 ?_
      refine xr_iushr cx dX8_plan_23 ?_
      refine xr_if_eq (tgt := 30) cx dX8_plan_24 (by decide) (fun cq24 => ?_) (fun cq24 => ?_)
      · unfold oPlan at h
        rw [if_neg (fun q => Or.elim q cq13 (fun q => Or.elim q cq18 (fun q => q cq24)))] at h
        refine xr_iload_3 cx dX8_plan_30 ?_
        refine xr_bipush (v := 30) cx dX8_plan_31 (by decide) ?_
        refine xr_icmp_lt (tgt := 39) cx dX8_plan_33 (by decide) (fun cq33 => ?_) (fun cq33 => ?_)
        · rw [if_neg (fun q => Int32.not_lt.mpr q cq33)] at h
          have hn30 : mSt a < 30 := (nI_ltI (by omega) (by decide)).mp (show nI (mSt a) < nI 30 by rw [← ix1]; exact cq33)
          have hy : ∀ k, mSt a ≤ k → k < 32 → bt y k = false := by
            intro k h1 h2
            rw [ix1] at cq24
            have hb := b_ushr (mSt a) (by omega) y (k - mSt a)
            rw [cq24, b_0, show mSt a + (k - mSt a) = k by omega] at hb
            exact hb.symm
          refine xr_aload_0 cx dX8_plan_39 ?_
          refine xr_getR cx dX8_plan_40 fl_X8_25 g8 rfl ?_
          refine xr_aload_0 cx dX8_plan_43 ?_
          refine xr_getR cx dX8_plan_44 fl_X8_10 g8 rfl ?_
          refine xr_V1v (ν := mX1_record) cx dX8_plan_47 rfl ml_X8_54 vf_X1_record g72 (Nat.le_of_ble_eq_true rfl) (m_X1_record hG hC (fun τ hC1 hf1 => ?_))
          refine xr_aload_0 cx dX8_plan_50 ?_
          refine xr_getR cx dX8_plan_51 fl_X8_10 g8 rfl ?_
          refine xr_getR cx dX8_plan_54 fl_X8_58 na0 rfl ?_
          refine xr_iload_1 cx dX8_plan_57 ?_
          refine xr_iload_2 cx dX8_plan_58 ?_
          refine xr_V2v (ν := mX6_add) cx dX8_plan_59 rfl ml_X8_67 vf_X6_add na1 (Nat.le_of_ble_eq_true rfl) (m_X6_add L9 ((RB_planned hC1.1).trans ix1) hn30 ?_)
          refine xr_iload_3 cx dX8_plan_62 ?_
          refine xr_iret cx cz dX8_plan_63 rfl ?_
          exact h _ (CAct_now hC1 hf1 (RB_add hC1.1 hx hn30) (mPlan_inv hI hn30 hy) xfr_add)
        · refine xr_bipush (v := -3) cx dX8_plan_36 (by decide) ?_
          refine xr_iret cx cz dX8_plan_38 rfl ?_
          rw [if_pos (Int32.not_lt.mp cq33)] at h
          exact h σ rfl
      · refine xr_bipush (v := -2) cx dX8_plan_27 (by decide) ?_
        refine xr_iret cx cz dX8_plan_29 rfl ?_
        unfold oPlan at h
        first | (rw [if_pos (Or.inl cq13)] at h; exact h σ rfl) | (rw [if_pos (Or.inr (Or.inl cq18))] at h; exact h σ rfl) | (rw [if_pos (Or.inr (Or.inr cq24))] at h; exact h σ rfl)
theorem oWrite_none {a : Nat → Int32} (h : mGo a = none) : oWrite a = (-4, none) := by unfold oWrite; rw [h]
theorem oWrite_some {a : Nat → Int32} {p : Nat} (h : mGo a = some p) : oWrite a = (nI p, some (mWrite a p)) := by unfold oWrite; rw [h]
theorem m_X8_write_n {l : Launch} {E : XEnv} {d : Nat} {σ : XSt} {a : Nat → Int32} {hl : List (Nat → Int32)} {sn : Option (Nat → Int32)} {Q : Int32 → XSt → Prop} (hG : xGl E) (hC : CRel σ a hl sn) (hg : mGo a = none) (h : ∀ τ, CAct σ τ a hl sn (oWrite a).2 → Q (oWrite a).1 τ) : XMi l E (d + 5) mX8_write [.ref (xad E 0)] σ Q := by
  obtain ⟨g8, g72, g73, g158, g159, g160, g161, g162, g163, L9, L30, L51, L74, L95, L116, L137⟩ := id hG
  obtain ⟨na0, na1, na2, na3, na4, na5, na6, na7, na8, na9, na10, na11, na12, na13, na14, na15, na16, na17, na18, na19, na20⟩ := id L9
  obtain ⟨hR, hI, hCH, hCS⟩ := id hC
  obtain ⟨hx, hO, hN, hD, hW, hE, hA⟩ := id hI
  obtain ⟨ix1, ix2, ix3, ix4, iy1, iy2, iy3, iy4⟩ := id hx
  rw [oWrite_none hg] at h
  refine xr_entry (lv := [some (.ref (xad E 0))]) (by decide +kernel) (by simp [Value.category]) (Nat.le_of_ble_eq_true rfl) rfl (fun w hw cx cz => ?_)
  subst hw
  refine xr_aload_0 cx dX8_write_0 ?_
  refine xr_getR cx dX8_write_1 fl_X8_10 g8 rfl ?_
  refine xr_V0i (ν := mX2_panelForNext) cx dX8_write_4 rfl ml_X8_90 vf_X2_panelForNext na0 (Nat.le_of_ble_eq_true rfl) (m_X2_panelForNext L9 hR hx hO ?_)
  rw [show (if mWr a < mSt a then mNext a else none) = none from hg]
  show XG _ _ _ _ [.int (-1)] _
  refine xr_iconst (v := -1) cx dX8_write_7 (by decide) ?_
  refine xr_icmp_ne (tgt := 14) cx dX8_write_8 (by decide) (fun cq8 => ?_) (fun cq8 => ?_)
  · exact absurd rfl cq8
  · refine xr_bipush (v := -4) cx dX8_write_11 (by decide) ?_
    refine xr_iret cx cz dX8_write_13 rfl ?_
    exact h σ rfl
theorem m_X8_write_s {l : Launch} {E : XEnv} {d : Nat} {σ : XSt} {a : Nat → Int32} {hl : List (Nat → Int32)} {sn : Option (Nat → Int32)} {Q : Int32 → XSt → Prop} {p : Nat} (hG : xGl E) (hC : CRel σ a hl sn) (hg : mGo a = some p) (h : ∀ τ, CAct σ τ a hl sn (oWrite a).2 → Q (oWrite a).1 τ) : XMi l E (d + 5) mX8_write [.ref (xad E 0)] σ Q := by
  obtain ⟨g8, g72, g73, g158, g159, g160, g161, g162, g163, L9, L30, L51, L74, L95, L116, L137⟩ := id hG
  obtain ⟨na0, na1, na2, na3, na4, na5, na6, na7, na8, na9, na10, na11, na12, na13, na14, na15, na16, na17, na18, na19, na20⟩ := id L9
  obtain ⟨hR, hI, hCH, hCS⟩ := id hC
  obtain ⟨hx, hO, hN, hD, hW, hE, hA⟩ := id hI
  obtain ⟨ix1, ix2, ix3, ix4, iy1, iy2, iy3, iy4⟩ := id hx
  rw [oWrite_some hg] at h
  obtain ⟨hw, hp⟩ := mGo_some hg
  have hp6 := mNext_lt hp iy3
  refine xr_entry (lv := [some (.ref (xad E 0))]) (by decide +kernel) (by simp [Value.category]) (Nat.le_of_ble_eq_true rfl) rfl (fun w hw cx cz => ?_)
  subst hw
  refine xr_aload_0 cx dX8_write_0 ?_
  refine xr_getR cx dX8_write_1 fl_X8_10 g8 rfl ?_
  refine xr_V0i (ν := mX2_panelForNext) cx dX8_write_4 rfl ml_X8_90 vf_X2_panelForNext na0 (Nat.le_of_ble_eq_true rfl) (m_X2_panelForNext L9 hR hx hO ?_)
  rw [show (if mWr a < mSt a then mNext a else none) = some p from hg]
  show XG _ _ _ _ [.int (nI p)] _
  refine xr_iconst (v := -1) cx dX8_write_7 (by decide) ?_
  refine xr_icmp_ne (tgt := 14) cx dX8_write_8 (by decide) (fun cq8 => ?_) (fun cq8 => ?_)
  · refine xr_aload_0 cx dX8_write_14 ?_
    refine xr_getR cx dX8_write_15 fl_X8_25 g8 rfl ?_
    refine xr_aload_0 cx dX8_write_18 ?_
    refine xr_getR cx dX8_write_19 fl_X8_10 g8 rfl ?_
    refine xr_V1v (ν := mX1_record) cx dX8_write_22 rfl ml_X8_54 vf_X1_record g72 (Nat.le_of_ble_eq_true rfl) (m_X1_record hG hC (fun τ hC1 hf1 => ?_))
    refine xr_aload_0 cx dX8_write_25 ?_
    refine xr_getR cx dX8_write_26 fl_X8_10 g8 rfl ?_
    refine xr_V0i (ν := mX2_writeNext) cx dX8_write_29 rfl ml_X8_93 vf_X2_writeNext na0 (Nat.le_of_ble_eq_true rfl) (m_X2_writeNext L9 hC1.1 hI hw hp (fun ρ r1 f1 => ?_))
    refine xr_iret cx cz dX8_write_32 rfl ?_
    exact h _ (CAct_now hC1 hf1 r1 (mWrite_inv hI hp6 hw) f1)
  · exact absurd cq8 (nI_nm1 (by omega))
theorem m_X8_write {l : Launch} {E : XEnv} {d : Nat} {σ : XSt} {a : Nat → Int32} {hl : List (Nat → Int32)} {sn : Option (Nat → Int32)} {Q : Int32 → XSt → Prop} (hG : xGl E) (hC : CRel σ a hl sn) (h : ∀ τ, CAct σ τ a hl sn (oWrite a).2 → Q (oWrite a).1 τ) : XMi l E (d + 5) mX8_write [.ref (xad E 0)] σ Q := by
  cases hg : mGo a with
  | none => exact m_X8_write_n hG hC hg h
  | some p => exact m_X8_write_s hG hC hg h
theorem m_X8_pull {l : Launch} {E : XEnv} {d : Nat} {σ : XSt} {a : Nat → Int32} {hl : List (Nat → Int32)} {sn : Option (Nat → Int32)} {Q : Int32 → XSt → Prop} {x : Int32} (hG : xGl E) (hC : CRel σ a hl sn) (h : ∀ τ, CAct σ τ a hl sn (oPull a x).2 → Q (oPull a x).1 τ) : XMi l E (d + 5) mX8_pull [.ref (xad E 0), .int x] σ Q := by
  obtain ⟨g8, g72, g73, g158, g159, g160, g161, g162, g163, L9, L30, L51, L74, L95, L116, L137⟩ := id hG
  obtain ⟨na0, na1, na2, na3, na4, na5, na6, na7, na8, na9, na10, na11, na12, na13, na14, na15, na16, na17, na18, na19, na20⟩ := id L9
  obtain ⟨hR, hI, hCH, hCS⟩ := id hC
  obtain ⟨hx, hO, hN, hD, hW, hE, hA⟩ := id hI
  obtain ⟨ix1, ix2, ix3, ix4, iy1, iy2, iy3, iy4⟩ := id hx
  refine xr_entry (lv := [some (.ref (xad E 0)), some (.int x)]) (by decide +kernel) (by simp [Value.category]) (Nat.le_of_ble_eq_true rfl) rfl (fun w hw cx cz => ?_)
  subst hw
  refine xr_iload_1 cx dX8_pull_0 ?_
  refine xr_if_lt (tgt := 9) cx dX8_pull_1 (by decide) (fun cq1 => ?_) (fun cq1 => ?_)
  · refine xr_iconst (v := -1) cx dX8_pull_9 (by decide) ?_
    refine xr_iret cx cz dX8_pull_10 rfl ?_
    unfold oPull at h
    first | (rw [if_pos (Or.inl cq1)] at h; exact h σ rfl) | (rw [if_pos (Or.inr (Int32.not_lt.mp cq6))] at h; exact h σ rfl)
  · refine xr_iload_1 cx dX8_pull_4 ?_
    refine xr_iconst (v := 3) cx dX8_pull_5 (by decide) ?_
    refine xr_icmp_lt (tgt := 11) cx dX8_pull_6 (by decide) (fun cq6 => ?_) (fun cq6 => ?_)
    · obtain ⟨c, hc, rfl⟩ := nI_of cq1
      have hc3 : c < 3 := (nI_ltI hc (by decide)).mp (show nI c < nI 3 from cq6)
      unfold oPull at h
      rw [if_neg (fun q => Or.elim q cq1 (fun q => Int32.not_le.mpr cq6 q)), nI_clamp hc] at h
      refine xr_aload_0 cx dX8_pull_11 ?_
      refine xr_getR cx dX8_pull_12 fl_X8_25 g8 rfl ?_
      refine xr_aload_0 cx dX8_pull_15 ?_
      refine xr_getR cx dX8_pull_16 fl_X8_10 g8 rfl ?_
      refine xr_V1v (ν := mX1_record) cx dX8_pull_19 rfl ml_X8_54 vf_X1_record g72 (Nat.le_of_ble_eq_true rfl) (m_X1_record hG hC (fun τ hC1 hf1 => ?_))
      refine xr_aload_0 cx dX8_pull_22 ?_
      refine xr_getR cx dX8_pull_23 fl_X8_10 g8 rfl ?_
      refine xr_getR cx dX8_pull_26 fl_X8_44 na0 rfl ?_
      refine xr_iload_1 cx dX8_pull_29 ?_
      refine xr_V1v (ν := mX0_turn) cx dX8_pull_30 rfl ml_X8_96 vf_X0_turn na6 (Nat.le_of_ble_eq_true rfl) (m_X0_turn L9 hc3 ?_)
      refine xr_aload_0 cx dX8_pull_33 ?_
      refine xr_getR cx dX8_pull_34 fl_X8_10 g8 rfl ?_
      refine xr_getR cx dX8_pull_37 fl_X8_44 na0 rfl ?_
      refine xr_getR cx dX8_pull_40 fl_X8_100 na6 rfl ?_
      refine xr_iload_1 cx dX8_pull_43 ?_
      refine xr_V1i (ν := mX5_at) cx dX8_pull_44 rfl ml_X8_82 vf_X5_at na11 (Nat.le_of_ble_eq_true rfl) (m_X5_at na11 na12 (by decide) ?_)
      rw [rowAt_in (by omega) (by decide)]
      refine xr_iret cx cz dX8_pull_47 rfl ?_
      have hRt := RB_turn hC1.1 hc3
      rw [RB_front hRt hc3]
      exact h _ (CAct_now hC1 hf1 hRt (mPull_inv hI hc3) xfr_turn)
    · refine xr_iconst (v := -1) cx dX8_pull_9 (by decide) ?_
      refine xr_iret cx cz dX8_pull_10 rfl ?_
      unfold oPull at h
      first | (rw [if_pos (Or.inl cq1)] at h; exact h σ rfl) | (rw [if_pos (Or.inr (Int32.not_lt.mp cq6))] at h; exact h σ rfl)
theorem m_X8_pin {l : Launch} {E : XEnv} {d : Nat} {σ : XSt} {a : Nat → Int32} {hl : List (Nat → Int32)} {sn : Option (Nat → Int32)} {Q : Int32 → XSt → Prop} {x y : Int32} (hG : xGl E) (hC : CRel σ a hl sn) (h : ∀ τ, CAct σ τ a hl sn (oPin a x y).2 → Q (oPin a x y).1 τ) : XMi l E (d + 5) mX8_pin [.ref (xad E 0), .int x, .int y] σ Q := by
  obtain ⟨g8, g72, g73, g158, g159, g160, g161, g162, g163, L9, L30, L51, L74, L95, L116, L137⟩ := id hG
  obtain ⟨na0, na1, na2, na3, na4, na5, na6, na7, na8, na9, na10, na11, na12, na13, na14, na15, na16, na17, na18, na19, na20⟩ := id L9
  obtain ⟨hR, hI, hCH, hCS⟩ := id hC
  obtain ⟨hx, hO, hN, hD, hW, hE, hA⟩ := id hI
  obtain ⟨ix1, ix2, ix3, ix4, iy1, iy2, iy3, iy4⟩ := id hx
  refine xr_entry (lv := [some (.ref (xad E 0)), some (.int x), some (.int y)]) (by decide +kernel) (by simp [Value.category]) (Nat.le_of_ble_eq_true rfl) rfl (fun w hw cx cz => ?_)
  subst hw
  refine xr_iload_1 cx dX8_pin_0 ?_
  refine xr_S1i (ν := mX8_isPanel) cx dX8_pin_1 rfl ml_X8_103 sf_X8_isPanel (Nat.le_of_ble_eq_true rfl) (m_X8_isPanel ?_)
  refine xr_if_ne (tgt := 9) cx dX8_pin_4 (by decide) (fun cq4 => ?_) (fun cq4 => ?_)
  · have hpn := x_panel cq4
    obtain ⟨p, hp6, rfl, hpn2, hpc⟩ := hpn
    unfold oPin at h
    rw [if_neg hpn2, hpc] at h
    refine xr_aload_0 cx dX8_pin_9 ?_
    refine xr_getR cx dX8_pin_10 fl_X8_10 g8 rfl ?_
    refine xr_getR cx dX8_pin_13 fl_X8_44 na0 rfl ?_
    refine xr_iload_1 cx dX8_pin_16 ?_
    refine xr_V1i (ν := mX0_isPinned) cx dX8_pin_17 rfl ml_X8_107 vf_X0_isPinned na6 (Nat.le_of_ble_eq_true rfl) (m_X0_isPinned L9 hp6 ?_)
    rw [RB_pins hR]
    refine xr_iload_2 cx dX8_pin_20 ?_
    refine xr_icmp_ne (tgt := 27) cx dX8_pin_21 (by decide) (fun cq21 => ?_) (fun cq21 => ?_)
    · rw [if_neg cq21] at h
      refine xr_aload_0 cx dX8_pin_27 ?_
      refine xr_getR cx dX8_pin_28 fl_X8_25 g8 rfl ?_
      refine xr_aload_0 cx dX8_pin_31 ?_
      refine xr_getR cx dX8_pin_32 fl_X8_10 g8 rfl ?_
      refine xr_V1v (ν := mX1_record) cx dX8_pin_35 rfl ml_X8_54 vf_X1_record g72 (Nat.le_of_ble_eq_true rfl) (m_X1_record hG hC (fun τ hC1 hf1 => ?_))
      refine xr_aload_0 cx dX8_pin_38 ?_
      refine xr_getR cx dX8_pin_39 fl_X8_10 g8 rfl ?_
      refine xr_getR cx dX8_pin_42 fl_X8_44 na0 rfl ?_
      refine xr_dup cx dX8_pin_45 rfl ?_
      refine xr_getI cx dX8_pin_46 fl_X8_110 na6 rfl ?_
      refine xr_iconst (v := 1) cx dX8_pin_49 (by decide) ?_
      refine xr_iload_1 cx dX8_pin_50 ?_
      refine xr_ishl cx dX8_pin_51 ?_
      refine xr_ixor cx dX8_pin_52 ?_
      rw [RB_pins hC1.1]
      refine xr_putI cx dX8_pin_53 fp_X8_110 na6 rfl ?_
      refine xr_aload_0 cx dX8_pin_56 ?_
      refine xr_getR cx dX8_pin_57 fl_X8_10 g8 rfl ?_
      refine xr_getR cx dX8_pin_60 fl_X8_44 na0 rfl ?_
      refine xr_getI cx dX8_pin_63 fl_X8_110 na6 rfl ?_
      rw [su_same, upd_same]
      refine xr_S1i (ν := mJ6_bitCount_0f7a4) cx dX8_pin_66 rfl ml_X8_113 sf_J6_bitCount_0f7a4 (Nat.le_of_ble_eq_true rfl) (m_bitCount ?_)
      refine xr_iret cx cz dX8_pin_69 rfl ?_
      exact h _ (CAct_now hC1 hf1 (RB_lo (i := 6) (j := 3) (k := 7) rfl hC1.1 (by decide) (by decide)) (xInv_ne (by omega) hI) (xfr_su _ (b := 1) (i := 6) _ (by decide)))
    · refine xr_bipush (v := -5) cx dX8_pin_24 (by decide) ?_
      refine xr_iret cx cz dX8_pin_26 rfl ?_
      rw [if_pos cq21] at h
      exact h σ rfl
  · refine xr_iconst (v := -1) cx dX8_pin_7 (by decide) ?_
    refine xr_iret cx cz dX8_pin_8 rfl ?_
    unfold oPin at h
    rw [if_pos (x_npanel cq4)] at h
    exact h σ rfl
theorem m_X8_wipe {l : Launch} {E : XEnv} {d : Nat} {σ : XSt} {a : Nat → Int32} {hl : List (Nat → Int32)} {sn : Option (Nat → Int32)} {Q : Int32 → XSt → Prop} {x : Int32} (hG : xGl E) (hC : CRel σ a hl sn) (h : ∀ τ, CAct σ τ a hl sn (oWipe a x).2 → Q (oWipe a x).1 τ) : XMi l E (d + 5) mX8_wipe [.ref (xad E 0), .int x] σ Q := by
  obtain ⟨g8, g72, g73, g158, g159, g160, g161, g162, g163, L9, L30, L51, L74, L95, L116, L137⟩ := id hG
  obtain ⟨na0, na1, na2, na3, na4, na5, na6, na7, na8, na9, na10, na11, na12, na13, na14, na15, na16, na17, na18, na19, na20⟩ := id L9
  obtain ⟨hR, hI, hCH, hCS⟩ := id hC
  obtain ⟨hx, hO, hN, hD, hW, hE, hA⟩ := id hI
  obtain ⟨ix1, ix2, ix3, ix4, iy1, iy2, iy3, iy4⟩ := id hx
  refine xr_entry (lv := [some (.ref (xad E 0)), some (.int x), none]) (by decide +kernel) (by simp [Value.category]) (Nat.le_of_ble_eq_true rfl) rfl (fun w hw cx cz => ?_)
  subst hw
  refine xr_iload_1 cx dX8_wipe_0 ?_
  refine xr_S1i (ν := mX8_isPanel) cx dX8_wipe_1 rfl ml_X8_103 sf_X8_isPanel (Nat.le_of_ble_eq_true rfl) (m_X8_isPanel ?_)
  refine xr_if_ne (tgt := 9) cx dX8_wipe_4 (by decide) (fun cq4 => ?_) (fun cq4 => ?_)
  · have hpn := x_panel cq4
    obtain ⟨p, hp6, rfl, hpn2, hpc⟩ := hpn
    unfold oWipe at h
    rw [if_neg hpn2, hpc] at h
    refine xr_aload_0 cx dX8_wipe_9 ?_
    refine xr_getR cx dX8_wipe_10 fl_X8_10 g8 rfl ?_
    refine xr_getR cx dX8_wipe_13 fl_X8_44 na0 rfl ?_
    refine xr_iload_1 cx dX8_wipe_16 ?_
    refine xr_V1i (ν := mX0_isPinned) cx dX8_wipe_17 rfl ml_X8_107 vf_X0_isPinned na6 (Nat.le_of_ble_eq_true rfl) (m_X0_isPinned L9 hp6 ?_)
    rw [RB_pins hR]
    refine xr_if_ne (tgt := 37) cx dX8_wipe_20 (by decide) (fun cq20 => ?_) (fun cq20 => ?_)
    · have hb : bt (a 7) p = true := by by_cases q : bt (a 7) p = true; exact q; rw [if_neg q] at cq20; exact absurd rfl cq20
      rw [if_pos (Or.inl hb)] at h
      refine xr_bipush (v := -4) cx dX8_wipe_37 (by decide) ?_
      refine xr_iret cx cz dX8_wipe_39 rfl ?_
      exact h σ rfl
    · have hb : ¬ bt (a 7) p = true := by intro q; rw [if_pos q] at cq20; exact absurd cq20 (by decide)
      refine xr_aload_0 cx dX8_wipe_23 ?_
      refine xr_getR cx dX8_wipe_24 fl_X8_10 g8 rfl ?_
      refine xr_getR cx dX8_wipe_27 fl_X8_44 na0 rfl ?_
      refine xr_iload_1 cx dX8_wipe_30 ?_
      refine xr_V1i (ν := mX0_isInFront) cx dX8_wipe_31 rfl ml_X8_118 vf_X0_isInFront na6 (Nat.le_of_ble_eq_true rfl) (m_X0_isInFront L9 hp6 ?_)
      refine xr_if_ne (tgt := 40) cx dX8_wipe_34 (by decide) (fun cq34 => ?_) (fun cq34 => ?_)
      · have hf : mFront a p = true := (RB_isFront hR hp6).mp (by by_cases q : σ (1 + 12) (p / 2) = nI p; exact q; rw [if_neg q] at cq34; exact absurd rfl cq34)
        rw [if_neg (fun q => Or.elim q hb (fun q => q hf))] at h
        refine xr_aload_0 cx dX8_wipe_40 ?_
        refine xr_getR cx dX8_wipe_41 fl_X8_10 g8 rfl ?_
        refine xr_getR cx dX8_wipe_44 fl_X8_44 na0 rfl ?_
        refine xr_getR cx dX8_wipe_47 fl_X8_121 na6 rfl ?_
        refine xr_iload_1 cx dX8_wipe_50 ?_
        refine xr_V1i (ν := mX5_at) cx dX8_wipe_51 rfl ml_X8_82 vf_X5_at na7 (Nat.le_of_ble_eq_true rfl) (m_X5_at na7 na8 (by decide) ?_)
        rw [rowAt_in (by omega) (by decide), RB_on hR hp6]
        refine xr_istore_2 cx dX8_wipe_54 ?_
        refine xr_iload_2 cx dX8_wipe_55 ?_
        refine xr_if_ne (tgt := 62) cx dX8_wipe_56 (by decide) (fun cq56 => ?_) (fun cq56 => ?_)
        · rw [if_neg cq56] at h
          refine xr_aload_0 cx dX8_wipe_62 ?_
          refine xr_getR cx dX8_wipe_63 fl_X8_25 g8 rfl ?_
          refine xr_aload_0 cx dX8_wipe_66 ?_
          refine xr_getR cx dX8_wipe_67 fl_X8_10 g8 rfl ?_
          refine xr_V1v (ν := mX1_record) cx dX8_wipe_70 rfl ml_X8_54 vf_X1_record g72 (Nat.le_of_ble_eq_true rfl) (m_X1_record hG hC (fun τ hC1 hf1 => ?_))
          refine xr_aload_0 cx dX8_wipe_73 ?_
          refine xr_getR cx dX8_wipe_74 fl_X8_10 g8 rfl ?_
          refine xr_getR cx dX8_wipe_77 fl_X8_44 na0 rfl ?_
          refine xr_iload_1 cx dX8_wipe_80 ?_
          refine xr_V1v (ν := mX0_clean) cx dX8_wipe_81 rfl ml_X8_124 vf_X0_clean na6 (Nat.le_of_ble_eq_true rfl) (m_X0_clean L9 hp6 ?_)
          refine xr_iload_2 cx dX8_wipe_84 ?_
          refine xr_S1i (ν := mJ6_bitCount_0f7a4) cx dX8_wipe_85 rfl ml_X8_113 sf_J6_bitCount_0f7a4 (Nat.le_of_ble_eq_true rfl) (m_bitCount ?_)
          refine xr_iret cx cz dX8_wipe_88 rfl ?_
          exact h _ (CAct_now hC1 hf1 (RB_clean hC1.1 hp6) (mWipe_inv hI hp6) xfr_clean)
        · refine xr_bipush (v := -5) cx dX8_wipe_59 (by decide) ?_
          refine xr_iret cx cz dX8_wipe_61 rfl ?_
          rw [if_pos cq56] at h
          exact h σ rfl
      · have hf : ¬ mFront a p = true := fun q => by rw [if_pos ((RB_isFront hR hp6).mpr q)] at cq34; exact absurd cq34 (by decide)
        rw [if_pos (Or.inr hf)] at h
        refine xr_bipush (v := -4) cx dX8_wipe_37 (by decide) ?_
        refine xr_iret cx cz dX8_wipe_39 rfl ?_
        exact h σ rfl
  · refine xr_iconst (v := -1) cx dX8_wipe_7 (by decide) ?_
    refine xr_iret cx cz dX8_wipe_8 rfl ?_
    unfold oWipe at h
    rw [if_pos (x_npanel cq4)] at h
    exact h σ rfl
theorem m_X8_photo {l : Launch} {E : XEnv} {d : Nat} {σ : XSt} {a : Nat → Int32} {hl : List (Nat → Int32)} {sn : Option (Nat → Int32)} {Q : Int32 → XSt → Prop} {x : Int32} (hG : xGl E) (hC : CRel σ a hl sn) (h : ∀ τ, CAct σ τ a hl sn (oPhoto a x).2 → Q (oPhoto a x).1 τ) : XMi l E (d + 5) mX8_photo [.ref (xad E 0), .int x] σ Q := by
  obtain ⟨g8, g72, g73, g158, g159, g160, g161, g162, g163, L9, L30, L51, L74, L95, L116, L137⟩ := id hG
  obtain ⟨na0, na1, na2, na3, na4, na5, na6, na7, na8, na9, na10, na11, na12, na13, na14, na15, na16, na17, na18, na19, na20⟩ := id L9
  obtain ⟨hR, hI, hCH, hCS⟩ := id hC
  obtain ⟨hx, hO, hN, hD, hW, hE, hA⟩ := id hI
  obtain ⟨ix1, ix2, ix3, ix4, iy1, iy2, iy3, iy4⟩ := id hx
  refine xr_entry (lv := [some (.ref (xad E 0)), some (.int x), none, none]) (by decide +kernel) (by simp [Value.category]) (Nat.le_of_ble_eq_true rfl) rfl (fun w hw cx cz => ?_)
  subst hw
  refine xr_iload_1 cx dX8_photo_0 ?_
  refine xr_S1i (ν := mX8_isPanel) cx dX8_photo_1 rfl ml_X8_103 sf_X8_isPanel (Nat.le_of_ble_eq_true rfl) (m_X8_isPanel ?_)
  refine xr_if_ne (tgt := 9) cx dX8_photo_4 (by decide) (fun cq4 => ?_) (fun cq4 => ?_)
  · have hpn := x_panel cq4
    obtain ⟨p, hp6, rfl, hpn2, hpc⟩ := hpn
    unfold oPhoto at h
    rw [if_neg hpn2, hpc] at h
    refine xr_aload_0 cx dX8_photo_9 ?_
    refine xr_getR cx dX8_photo_10 fl_X8_10 g8 rfl ?_
    refine xr_getR cx dX8_photo_13 fl_X8_44 na0 rfl ?_
    refine xr_getR cx dX8_photo_16 fl_X8_121 na6 rfl ?_
    refine xr_iload_1 cx dX8_photo_19 ?_
    refine xr_V1i (ν := mX5_at) cx dX8_photo_20 rfl ml_X8_82 vf_X5_at na7 (Nat.le_of_ble_eq_true rfl) (m_X5_at na7 na8 (by decide) ?_)
    rw [rowAt_in (by omega) (by decide), RB_on hR hp6]
    refine xr_istore_2 cx dX8_photo_23 ?_
    refine xr_aload_0 cx dX8_photo_24 ?_
    refine xr_getR cx dX8_photo_25 fl_X8_10 g8 rfl ?_
    refine xr_getR cx dX8_photo_28 fl_X8_44 na0 rfl ?_
    refine xr_iload_1 cx dX8_photo_31 ?_
    refine xr_V1i (ν := mX0_isInFront) cx dX8_photo_32 rfl ml_X8_118 vf_X0_isInFront na6 (Nat.le_of_ble_eq_true rfl) (m_X0_isInFront L9 hp6 ?_)
    refine xr_if_eq (tgt := 42) cx dX8_photo_35 (by decide) (fun cq35 => ?_) (fun cq35 => ?_)
    · have hf : ¬ mFront a p = true := fun q => by rw [if_pos ((RB_isFront hR hp6).mpr q)] at cq35; exact absurd cq35 (by decide)
      rw [if_pos (Or.inl hf)] at h
      refine xr_bipush (v := -4) cx dX8_photo_42 (by decide) ?_
      refine xr_iret cx cz dX8_photo_44 rfl ?_
      exact h σ rfl
    · have hf : mFront a p = true := (RB_isFront hR hp6).mp (by by_cases q : σ (1 + 12) (p / 2) = nI p; exact q; rw [if_neg q] at cq35; exact absurd rfl cq35)
      refine xr_iload_2 cx dX8_photo_38 ?_
      refine xr_if_ne (tgt := 45) cx dX8_photo_39 (by decide) (fun cq39 => ?_) (fun cq39 => ?_)
      · rw [if_neg (fun q => Or.elim q (fun q => q hf) cq39)] at h
        refine xr_aload_0 cx dX8_photo_45 ?_
        refine xr_getR cx dX8_photo_46 fl_X8_10 g8 rfl ?_
        refine xr_getR cx dX8_photo_49 fl_X8_127 na0 rfl ?_
        refine xr_getI cx dX8_photo_52 fl_X8_131 na13 rfl ?_
        refine xr_bipush (v := 40) cx dX8_photo_55 (by decide) ?_
        rw [RB_taken hR]
        refine xr_icmp_lt (tgt := 63) cx dX8_photo_57 (by decide) (fun cq57 => ?_) (fun cq57 => ?_)
        · rw [if_neg (fun q => Int32.not_lt.mpr q cq57)] at h
          have ht40 : mTk a < 40 := (nI_ltI (by omega) (by decide)).mp (show nI (mTk a) < nI 40 by rw [← ix4]; exact cq57)
          refine xr_aload_0 cx dX8_photo_63 ?_
          refine xr_getR cx dX8_photo_64 fl_X8_25 g8 rfl ?_
          refine xr_aload_0 cx dX8_photo_67 ?_
          refine xr_getR cx dX8_photo_68 fl_X8_10 g8 rfl ?_
          refine xr_V1v (ν := mX1_record) cx dX8_photo_71 rfl ml_X8_54 vf_X1_record g72 (Nat.le_of_ble_eq_true rfl) (m_X1_record hG hC (fun τ hC1 hf1 => ?_))
          refine xr_iload_2 cx dX8_photo_74 ?_
          refine xr_aload_0 cx dX8_photo_75 ?_
          refine xr_getR cx dX8_photo_76 fl_X8_10 g8 rfl ?_
          refine xr_getR cx dX8_photo_79 fl_X8_127 na0 rfl ?_
          refine xr_getI cx dX8_photo_82 fl_X8_136 na13 rfl ?_
          refine xr_iconst (v := -1) cx dX8_photo_85 (by decide) ?_
          refine xr_ixor cx dX8_photo_86 ?_
          refine xr_iand cx dX8_photo_87 ?_
          rw [hC1.1.2]
          refine xr_istore_3 cx dX8_photo_88 ?_
          refine xr_aload_0 cx dX8_photo_89 ?_
          refine xr_getR cx dX8_photo_90 fl_X8_10 g8 rfl ?_
          refine xr_getR cx dX8_photo_93 fl_X8_127 na0 rfl ?_
          refine xr_iload_1 cx dX8_photo_96 ?_
          refine xr_iload_2 cx dX8_photo_97 ?_
          refine xr_V2v (ν := mX3_take) cx dX8_photo_98 rfl ml_X8_139 vf_X3_take na13 (Nat.le_of_ble_eq_true rfl) (m_X3_take L9 ((RB_taken hC1.1).trans ix4) ht40 ?_)
          refine xr_iload_3 cx dX8_photo_101 ?_
          refine xr_S1i (ν := mJ6_bitCount_0f7a4) cx dX8_photo_102 rfl ml_X8_113 sf_J6_bitCount_0f7a4 (Nat.le_of_ble_eq_true rfl) (m_bitCount ?_)
          refine xr_iret cx cz dX8_photo_105 rfl ?_
          exact h _ (CAct_now hC1 hf1 (RB_take hC1.1 hx ht40) (mPhoto_inv hI ht40) xfr_take)
        · rw [if_pos (Int32.not_lt.mp cq57)] at h
          refine xr_bipush (v := -3) cx dX8_photo_60 (by decide) ?_
          refine xr_iret cx cz dX8_photo_62 rfl ?_
          exact h σ rfl
      · rw [if_pos (Or.inr cq39)] at h
        refine xr_bipush (v := -4) cx dX8_photo_42 (by decide) ?_
        refine xr_iret cx cz dX8_photo_44 rfl ?_
        exact h σ rfl
  · refine xr_iconst (v := -1) cx dX8_photo_7 (by decide) ?_
    refine xr_iret cx cz dX8_photo_8 rfl ?_
    unfold oPhoto at h
    rw [if_pos (x_npanel cq4)] at h
    exact h σ rfl
theorem m_X8_ask {l : Launch} {E : XEnv} {d : Nat} {σ : XSt} {a : Nat → Int32} {hl : List (Nat → Int32)} {sn : Option (Nat → Int32)} {Q : Int32 → XSt → Prop} {x : Int32} (hG : xGl E) (hC : CRel σ a hl sn) (h : ∀ τ, CAct σ τ a hl sn (oAsk a x).2 → Q (oAsk a x).1 τ) : XMi l E (d + 5) mX8_ask [.ref (xad E 0), .int x] σ Q := by
  obtain ⟨g8, g72, g73, g158, g159, g160, g161, g162, g163, L9, L30, L51, L74, L95, L116, L137⟩ := id hG
  obtain ⟨na0, na1, na2, na3, na4, na5, na6, na7, na8, na9, na10, na11, na12, na13, na14, na15, na16, na17, na18, na19, na20⟩ := id L9
  obtain ⟨hR, hI, hCH, hCS⟩ := id hC
  obtain ⟨hx, hO, hN, hD, hW, hE, hA⟩ := id hI
  obtain ⟨ix1, ix2, ix3, ix4, iy1, iy2, iy3, iy4⟩ := id hx
  refine xr_entry (lv := [some (.ref (xad E 0)), some (.int x)]) (by decide +kernel) (by simp [Value.category]) (Nat.le_of_ble_eq_true rfl) rfl (fun w hw cx cz => ?_)
  subst hw
  refine xr_aload_0 cx dX8_ask_0 ?_
  refine xr_getR cx dX8_ask_1 fl_X8_10 g8 rfl ?_
  refine xr_getR cx dX8_ask_4 fl_X8_58 na0 rfl ?_
  refine xr_iload_1 cx dX8_ask_7 ?_
  refine xr_V1i (ν := mX6_has) cx dX8_ask_8 rfl ml_X8_142 vf_X6_has na1 (Nat.le_of_ble_eq_true rfl) (m_X6_has L9 ?_)
  rw [RB_planned hR]
  refine xr_if_ne (tgt := 16) cx dX8_ask_11 (by decide) (fun cq11 => ?_) (fun cq11 => ?_)
  · have hb : ¬ x < 0 ∧ x < a 1 := by by_cases q : ¬ x < 0 ∧ x < a 1; exact q; rw [if_neg q] at cq11; exact absurd rfl cq11
    obtain ⟨s, hs, rfl⟩ := nI_of hb.1
    have hsn : s < mSt a := (nI_ltI hs (by omega)).mp (by rw [← ix1]; exact hb.2)
    unfold oAsk at h
    rw [if_neg (fun q => Or.elim q hb.1 (fun q => Int32.not_le.mpr hb.2 q)), nI_clamp hs] at h
    refine xr_iload_1 cx dX8_ask_16 ?_
    refine xr_aload_0 cx dX8_ask_17 ?_
    refine xr_getR cx dX8_ask_18 fl_X8_10 g8 rfl ?_
    refine xr_getR cx dX8_ask_21 fl_X8_58 na0 rfl ?_
    refine xr_getI cx dX8_ask_24 fl_X8_145 na1 rfl ?_
    rw [RB_written hR]
    refine xr_icmp_lt (tgt := 33) cx dX8_ask_27 (by decide) (fun cq27 => ?_) (fun cq27 => ?_)
    · rw [if_neg (fun q => Int32.not_lt.mpr q cq27)] at h
      refine xr_aload_0 cx dX8_ask_33 ?_
      refine xr_getR cx dX8_ask_34 fl_X8_25 g8 rfl ?_
      refine xr_aload_0 cx dX8_ask_37 ?_
      refine xr_getR cx dX8_ask_38 fl_X8_10 g8 rfl ?_
      refine xr_V1v (ν := mX1_record) cx dX8_ask_41 rfl ml_X8_54 vf_X1_record g72 (Nat.le_of_ble_eq_true rfl) (m_X1_record hG hC (fun τ hC1 hf1 => ?_))
      refine xr_aload_0 cx dX8_ask_44 ?_
      refine xr_getR cx dX8_ask_45 fl_X8_10 g8 rfl ?_
      refine xr_iload_1 cx dX8_ask_48 ?_
      refine xr_V1i (ν := mX2_answer) cx dX8_ask_49 rfl ml_X8_148 vf_X2_answer na0 (Nat.le_of_ble_eq_true rfl) (m_X2_answer L9 hC1.1 hx (show s < 30 by omega) (fun ρ r1 f1 => ?_))
      refine xr_iret cx cz dX8_ask_52 rfl ?_
      exact h _ (CAct_now hC1 hf1 r1 (mAsk_inv hI hsn) f1)
    · rw [if_pos (Int32.not_lt.mp cq27)] at h
      refine xr_bipush (v := -4) cx dX8_ask_30 (by decide) ?_
      refine xr_iret cx cz dX8_ask_32 rfl ?_
      exact h σ rfl
  · have hb : ¬ (¬ x < 0 ∧ x < a 1) := fun q => by rw [if_pos q] at cq11; exact absurd cq11 (by decide)
    unfold oAsk at h
    rw [if_pos (by by_cases c : x < 0; exact Or.inl c; exact Or.inr (Int32.not_lt.mp (fun q => hb ⟨c, q⟩)))] at h
    refine xr_iconst (v := -1) cx dX8_ask_14 (by decide) ?_
    refine xr_iret cx cz dX8_ask_15 rfl ?_
    exact h σ rfl
