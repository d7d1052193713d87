def xlin (b v : Nat) (σ : XSt) (p : Nat) : Int32 := xit (fun s acc => if bt (σ (b + 8) p) s = true then acc + σ (b + 3) s else acc) v 0 0
theorem lines_eq {σ : XSt} {b p : Nat} {a : Nat → Int32} (hR : RB σ b a) (hI : xIx a) (hO : xOn a) (hp : p < 6) : xlin b (mWr a) σ p = mLines a p := by
  unfold xlin mLines
  have h5 := hI.2.2.2.2.1
  have h6 := hI.2.2.2.2.2.1
  rw [show mSt a = mWr a + (mSt a - mWr a) by omega, xit_add]
  rw [xit_id (mSt a - mWr a) _ _ (fun k y h1 h2 => by rw [hO p hp k (by omega) (by omega), if_neg (by decide), Int32.add_zero])]
  refine xit_cong _ _ _ (fun k y h1 h2 => ?_)
  rw [RB_on hR hp, RB_lines hR (by omega)]
  by_cases hb : bt (a (17 + p)) k = true
  · rw [if_pos hb, if_pos hb]
  · rw [if_neg hb, if_neg hb, Int32.add_zero]
theorem nI_nm1 {p : Nat} (h : p < 2 ^ 31) : ¬ nI p = -1 := by
  intro q
  have h1 := nI_pos h
  rw [q] at h1
  exact h1 (by decide)
theorem lp_X2_linesOn {E : XEnv} {d b : Nat} {σ : XSt} {Q : Int32 → XSt → Prop} {w : XO} {p v : Nat} (hL : xLec E b) (hp : p < 6) (hv : σ (b + 1) 3 = nI v) (hv2 : v ≤ 30) (cx : CX (d + 1) w E mX2_linesOn) (cz : CZi w E Q) : ∀ n i (x : Int32), i + n = v → Q (xit (fun s acc => if bt (σ (b + 8) p) s = true then acc + σ (b + 3) s else acc) n i x) σ → XG w E 17 [some (.ref (xad E b)), some (.int (nI p)), some (.int (σ (b + 8) p)), some (.int x), some (.int (nI i))] [] σ := by
  obtain ⟨s0, s1, s2, s3, s4, s5, s6, s7, s8, s9, s10, s11, s12, s13, s14, s15, s16, s17, s18, s19, s20⟩ := id hL
  intro n
  induction n with
  | zero =>
    intro i x hi h
    refine xr_iload_4 cx dX2_linesOn_17 ?_
    refine xr_aload_0 cx dX2_linesOn_19 ?_
    refine xr_getR cx dX2_linesOn_20 fl_X2_12 s0 rfl ?_
    refine xr_getI cx dX2_linesOn_23 fl_X2_49 s1 rfl ?_
    rw [hv]
    refine xr_icmp_ge (tgt := 60) cx dX2_linesOn_26 (by decide) (fun cq26 => ?_) (fun cq26 => ?_)
    · refine xr_iload_3 cx dX2_linesOn_60 ?_
      refine xr_iret cx cz dX2_linesOn_61 rfl ?_
      exact h
    · exact absurd (nI_le (a := v) (b := i) (by omega) (by omega)) cq26
  | succ n ih =>
    intro i x hi h
    refine xr_iload_4 cx dX2_linesOn_17 ?_
    refine xr_aload_0 cx dX2_linesOn_19 ?_
    refine xr_getR cx dX2_linesOn_20 fl_X2_12 s0 rfl ?_
    refine xr_getI cx dX2_linesOn_23 fl_X2_49 s1 rfl ?_
    rw [hv]
    refine xr_icmp_ge (tgt := 60) cx dX2_linesOn_26 (by decide) (fun cq26 => ?_) (fun cq26 => ?_)
    · exact absurd cq26 (nI_ge (a := i) (b := v) (by omega) (by omega))
    · refine xr_iload_2 cx dX2_linesOn_29 ?_
      refine xr_iload_4 cx dX2_linesOn_30 ?_
      refine xr_N1i (ν := mX8_bitOf) cx dX2_linesOn_32 rfl nl_X2_53 sf_X8_bitOf (Nat.le_of_ble_eq_true rfl) (m_X8_bitOf ?_)
      rw [xbitOf_in (by omega)]
      refine xr_iand cx dX2_linesOn_35 ?_
      refine xr_if_eq (tgt := 54) cx dX2_linesOn_36 (by decide) (fun cq36 => ?_) (fun cq36 => ?_)
      · have hb : bt (σ (b + 8) p) i = false := (xbit_tst (by omega)).mp cq36
        rw [xit_succ, if_neg (by rw [hb]; decide)] at h
        refine xr_iinc_4 (y := 1) cx dX2_linesOn_54 (by decide) ?_
        refine xr_goto (tgt := 17) cx dX2_linesOn_57 (by decide) ?_
        rw [nI_1]
        exact ih (i + 1) _ (by omega) h
      · have hb : bt (σ (b + 8) p) i = true := by cases hq : bt (σ (b + 8) p) i with | true => rfl | false => exact absurd ((xbit_tst (by omega)).mpr hq) cq36
        rw [xit_succ, if_pos hb] at h
        refine xr_iload_3 cx dX2_linesOn_39 ?_
        refine xr_aload_0 cx dX2_linesOn_40 ?_
        refine xr_getR cx dX2_linesOn_41 fl_X2_12 s0 rfl ?_
        refine xr_getR cx dX2_linesOn_44 fl_X2_56 s1 rfl ?_
        refine xr_iload_4 cx dX2_linesOn_47 ?_
        refine xr_V1i (ν := mX5_at) cx dX2_linesOn_49 rfl ml_X2_43 vf_X5_at s2 (Nat.le_of_ble_eq_true rfl) (m_X5_at s2 s3 (by decide) ?_)
        rw [rowAt_in (by omega) (by decide)]
        refine xr_iadd cx dX2_linesOn_52 ?_
        refine xr_istore_3 cx dX2_linesOn_53 ?_
        refine xr_iinc_4 (y := 1) cx dX2_linesOn_54 (by decide) ?_
        refine xr_goto (tgt := 17) cx dX2_linesOn_57 (by decide) ?_
        rw [nI_1]
        exact ih (i + 1) _ (by omega) h
theorem m_X2_linesOn {l : Launch} {E : XEnv} {d b : Nat} {σ : XSt} {Q : Int32 → XSt → Prop} {p : Nat} {a : Nat → Int32} (hL : xLec E b) (hR : RB σ b a) (hI : xIx a) (hO : xOn a) (hp : p < 6) (h : Q (mLines a p) σ) : XMi l E (d + 1) mX2_linesOn [.ref (xad E b), .int (nI p)] σ Q := by
  obtain ⟨ix1, ix2, ix3, ix4, iy1, iy2, iy3, iy4⟩ := id hI
  obtain ⟨s0, s1, s2, s3, s4, s5, s6, s7, s8, s9, s10, s11, s12, s13, s14, s15, s16, s17, s18, s19, s20⟩ := id hL
  refine xr_entry (lv := [some (.ref (xad E b)), some (.int (nI p)), none, none, none]) (by decide +kernel) (by simp [Value.category]) (Nat.le_of_ble_eq_true rfl) rfl (fun w hw cx cz => ?_)
  subst hw
  refine xr_aload_0 cx dX2_linesOn_0 ?_
  refine xr_getR cx dX2_linesOn_1 fl_X2_21 s0 rfl ?_
  refine xr_getR cx dX2_linesOn_4 fl_X2_39 s6 rfl ?_
  refine xr_iload_1 cx dX2_linesOn_7 ?_
  refine xr_V1i (ν := mX5_at) cx dX2_linesOn_8 rfl ml_X2_43 vf_X5_at s7 (Nat.le_of_ble_eq_true rfl) (m_X5_at s7 s8 (by decide) ?_)
  rw [rowAt_in (by omega) (by decide)]
  refine xr_istore_2 cx dX2_linesOn_11 ?_
  refine xr_iconst (v := 0) cx dX2_linesOn_12 (by decide) ?_
  refine xr_istore_3 cx dX2_linesOn_13 ?_
  refine xr_iconst (v := 0) cx dX2_linesOn_14 (by decide) ?_
  refine xr_istore_4 cx dX2_linesOn_15 ?_
  exact lp_X2_linesOn hL hp ((RB_written hR).trans ix2) (by omega) cx cz (mWr a) 0 0 (by omega) (q_i h (lines_eq hR hI hO hp))
def mFull (a : Nat → Int32) : Int32 := xit (fun p acc => if acc < mLines a p then mLines a p else acc) 6 0 0
theorem lp_X2_fullestPanel {E : XEnv} {d b : Nat} {σ : XSt} {Q : Int32 → XSt → Prop} {w : XO} {a : Nat → Int32} (hL : xLec E b) (hR : RB σ b a) (hI : xIx a) (hO : xOn a) (cx : CX (d + 2) w E mX2_fullestPanel) (cz : CZi w E Q) : ∀ n i (x : Int32), i + n = 6 → Q (xit (fun p acc => if acc < mLines a p then mLines a p else acc) n i x) σ → XG w E 4 [some (.ref (xad E b)), some (.int x), some (.int (nI i))] [] σ := by
  obtain ⟨s0, s1, s2, s3, s4, s5, s6, s7, s8, s9, s10, s11, s12, s13, s14, s15, s16, s17, s18, s19, s20⟩ := id hL
  intro n
  induction n with
  | zero =>
    intro i x hi h
    obtain rfl : i = 6 := by omega
    refine xr_iload_2 cx dX2_fullestPanel_4 ?_
    refine xr_bipush (v := 6) cx dX2_fullestPanel_5 (by decide) ?_
    refine xr_icmp_ge (tgt := 26) cx dX2_fullestPanel_7 (by decide) (fun cq7 => ?_) (fun cq7 => ?_)
    · refine xr_iload_1 cx dX2_fullestPanel_26 ?_
      refine xr_iret cx cz dX2_fullestPanel_27 rfl ?_
      exact h
    · exact absurd (nI_le (a := 6) (b := 6) (by decide) (by decide)) cq7
  | succ n ih =>
    intro i x hi h
    refine xr_iload_2 cx dX2_fullestPanel_4 ?_
    refine xr_bipush (v := 6) cx dX2_fullestPanel_5 (by decide) ?_
    refine xr_icmp_ge (tgt := 26) cx dX2_fullestPanel_7 (by decide) (fun cq7 => ?_) (fun cq7 => ?_)
    · exact absurd cq7 (nI_ge (a := i) (b := 6) (by omega) (by decide))
    · refine xr_iload_1 cx dX2_fullestPanel_10 ?_
      refine xr_aload_0 cx dX2_fullestPanel_11 ?_
      refine xr_iload_2 cx dX2_fullestPanel_12 ?_
      refine xr_V1i (ν := mX2_linesOn) cx dX2_fullestPanel_13 rfl ml_X2_59 vf_X2_linesOn s0 (Nat.le_of_ble_eq_true rfl) (m_X2_linesOn hL hR hI hO (by omega) ?_)
      refine xr_mmax cx dX2_fullestPanel_16 rfl ml_X2_62 (Nat.le_of_ble_eq_true rfl) ?_
      refine xr_istore_1 cx dX2_fullestPanel_19 ?_
      refine xr_iinc_2 (y := 1) cx dX2_fullestPanel_20 (by decide) ?_
      refine xr_goto (tgt := 4) cx dX2_fullestPanel_23 (by decide) ?_
      rw [nI_1]
      exact ih (i + 1) _ (by omega) h
theorem m_X2_fullestPanel {l : Launch} {E : XEnv} {d b : Nat} {σ : XSt} {Q : Int32 → XSt → Prop} {a : Nat → Int32} (hL : xLec E b) (hR : RB σ b a) (hI : xIx a) (hO : xOn a) (h : Q (mFull a) σ) : XMi l E (d + 2) mX2_fullestPanel [.ref (xad E b)] σ Q := by
  obtain ⟨s0, s1, s2, s3, s4, s5, s6, s7, s8, s9, s10, s11, s12, s13, s14, s15, s16, s17, s18, s19, s20⟩ := id hL
  refine xr_entry (lv := [some (.ref (xad E b)), none, none]) (by decide +kernel) (by simp [Value.category]) (Nat.le_of_ble_eq_true rfl) rfl (fun w hw cx cz => ?_)
  subst hw
  refine xr_iconst (v := 0) cx dX2_fullestPanel_0 (by decide) ?_
  refine xr_istore_1 cx dX2_fullestPanel_1 ?_
  refine xr_iconst (v := 0) cx dX2_fullestPanel_2 (by decide) ?_
  refine xr_istore_2 cx dX2_fullestPanel_3 ?_
  exact lp_X2_fullestPanel hL hR hI hO cx cz 6 0 0 rfl h
theorem m_X2_panelForNext {l : Launch} {E : XEnv} {d b : Nat} {σ : XSt} {Q : Int32 → XSt → Prop} {a : Nat → Int32} (hL : xLec E b) (hR : RB σ b a) (hI : xIx a) (hO : xOn a) (h : Q (xpn (if mWr a < mSt a then mNext a else none)) σ) : XMi l E (d + 2) mX2_panelForNext [.ref (xad E b)] σ Q := by
  obtain ⟨ix1, ix2, ix3, ix4, iy1, iy2, iy3, iy4⟩ := id hI
  obtain ⟨s0, s1, s2, s3, s4, s5, s6, s7, s8, s9, s10, s11, s12, s13, s14, s15, s16, s17, s18, s19, s20⟩ := id hL
  refine xr_entry (lv := [some (.ref (xad E b)), none]) (by decide +kernel) (by simp [Value.category]) (Nat.le_of_ble_eq_true rfl) rfl (fun w hw cx cz => ?_)
  subst hw
  refine xr_aload_0 cx dX2_panelForNext_0 ?_
  refine xr_getR cx dX2_panelForNext_1 fl_X2_12 s0 rfl ?_
  refine xr_getI cx dX2_panelForNext_4 fl_X2_49 s1 rfl ?_
  refine xr_aload_0 cx dX2_panelForNext_7 ?_
  refine xr_getR cx dX2_panelForNext_8 fl_X2_12 s0 rfl ?_
  refine xr_getI cx dX2_panelForNext_11 fl_X2_68 s1 rfl ?_
  rw [RB_written hR, RB_planned hR, ix2, ix1]
  refine xr_icmp_lt (tgt := 19) cx dX2_panelForNext_14 (by decide) (fun cq14 => ?_) (fun cq14 => ?_)
  · have hlt : mWr a < mSt a := (nI_ltI (by omega) (by omega)).mp cq14
    rw [if_pos hlt] at h
    refine xr_aload_0 cx dX2_panelForNext_19 ?_
    refine xr_getR cx dX2_panelForNext_20 fl_X2_12 s0 rfl ?_
    refine xr_getR cx dX2_panelForNext_23 fl_X2_56 s1 rfl ?_
    refine xr_aload_0 cx dX2_panelForNext_26 ?_
    refine xr_getR cx dX2_panelForNext_27 fl_X2_12 s0 rfl ?_
    refine xr_getI cx dX2_panelForNext_30 fl_X2_49 s1 rfl ?_
    rw [RB_written hR, ix2]
    refine xr_V1i (ν := mX5_at) cx dX2_panelForNext_33 rfl ml_X2_43 vf_X5_at s2 (Nat.le_of_ble_eq_true rfl) (m_X5_at s2 s3 (by decide) ?_)
    rw [rowAt_in (by omega) (by decide), RB_lines hR (by omega)]
    refine xr_istore_1 cx dX2_panelForNext_36 ?_
    refine xr_aload_0 cx dX2_panelForNext_37 ?_
    refine xr_aload_0 cx dX2_panelForNext_38 ?_
    refine xr_getR cx dX2_panelForNext_39 fl_X2_21 s0 rfl ?_
    refine xr_getI cx dX2_panelForNext_42 fl_X2_71 s6 rfl ?_
    rw [RB_use hR, ix3]
    refine xr_V1i (ν := mX2_linesOn) cx dX2_panelForNext_45 rfl ml_X2_59 vf_X2_linesOn s0 (Nat.le_of_ble_eq_true rfl) (m_X2_linesOn hL hR hI hO iy3 ?_)
    refine xr_iload_1 cx dX2_panelForNext_48 ?_
    refine xr_iadd cx dX2_panelForNext_49 ?_
    refine xr_aload_0 cx dX2_panelForNext_50 ?_
    refine xr_getR cx dX2_panelForNext_51 fl_X2_21 s0 rfl ?_
    refine xr_getI cx dX2_panelForNext_54 fl_X2_74 s6 rfl ?_
    rw [RB_room hR]
    refine xr_icmp_gt (tgt := 68) cx dX2_panelForNext_57 (by decide) (fun cq57 => ?_) (fun cq57 => ?_)
    · refine xr_aload_0 cx dX2_panelForNext_68 ?_
      refine xr_getR cx dX2_panelForNext_69 fl_X2_21 s0 rfl ?_
      refine xr_V0i (ν := mX0_nextToUse) cx dX2_panelForNext_72 rfl ml_X2_77 vf_X0_nextToUse s6 (Nat.le_of_ble_eq_true rfl) (m_X0_nextToUse hL ((RB_use hR).trans ix3) iy3 ?_)
      rw [RB_pins hR]
      unfold mNext at h
      rw [if_neg (fun q => Int32.not_le.mpr cq57 q)] at h
      refine xr_iret cx cz dX2_panelForNext_75 rfl ?_
      exact h
    · refine xr_aload_0 cx dX2_panelForNext_60 ?_
      refine xr_getR cx dX2_panelForNext_61 fl_X2_21 s0 rfl ?_
      refine xr_getI cx dX2_panelForNext_64 fl_X2_71 s6 rfl ?_
      rw [RB_use hR, ix3]
      unfold mNext at h
      rw [if_pos (Int32.not_lt.mp cq57)] at h
      refine xr_iret cx cz dX2_panelForNext_67 rfl ?_
      exact h
  · refine xr_iconst (v := -1) cx dX2_panelForNext_17 (by decide) ?_
    refine xr_iret cx cz dX2_panelForNext_18 rfl ?_
    rw [if_neg (fun q => cq14 (nI_lt q (by omega)))] at h
    exact h
theorem RB_tal {σ : XSt} {b : Nat} {a : Nat → Int32} {i : Nat} (h : RB σ b a) (hi : 1 ≤ i ∧ i ≤ 6) : RB (su σ (b + 18) (upd (σ (b + 18)) i (σ (b + 18) i + 1))) b (upd a (10 + i) (a (10 + i) + 1)) := by
  rw [RB_tally h hi]
  exact RB_lo (i := 18) (j := i) (k := 10 + i) (if_pos hi) h (by omega) (by omega)
theorem x_div2 {p : Nat} (h : p < 6) : p / 2 < 3 := by omega
theorem m_X2_lookAt_n {l : Launch} {E : XEnv} {d b : Nat} {σ : XSt} {Q : XSt → Prop} {s : Nat} {a : Nat → Int32} (hL : xLec E b) (hR : RB σ b a) (hI : xIx a) (hs : s < 30) (hp : mPan a s = none) (h : ∀ τ, RB τ b (mLook a s) → xfr σ τ b → Q τ) : XMv l E (d + 2) mX2_lookAt [.ref (xad E b), .int (nI s)] σ Q := by
  obtain ⟨ix1, ix2, ix3, ix4, iy1, iy2, iy3, iy4⟩ := id hI
  have e0 := mLook_none hp
  have hR2 : RB σ b (upd a (199 + s) (a (199 + s) + 1)) := RB_own (Or.inr (by omega)) hR iy4
  obtain ⟨s0, s1, s2, s3, s4, s5, s6, s7, s8, s9, s10, s11, s12, s13, s14, s15, s16, s17, s18, s19, s20⟩ := id hL
  refine xr_entry (lv := [some (.ref (xad E b)), some (.int (nI s)), none]) (by decide +kernel) (by simp [Value.category]) (Nat.le_of_ble_eq_true rfl) rfl (fun w hw cx cz => ?_)
  subst hw
  refine xr_aload_0 cx dX2_lookAt_0 ?_
  refine xr_getR cx dX2_lookAt_1 fl_X2_21 s0 rfl ?_
  refine xr_iload_1 cx dX2_lookAt_4 ?_
  refine xr_V1i (ν := mX0_panelWith) cx dX2_lookAt_5 rfl ml_X2_104 vf_X0_panelWith s6 (Nat.le_of_ble_eq_true rfl) (m_X0_panelWith hL hs ?_)
  rw [RB_pan hR, hp]
  show XG _ _ _ _ [.int (-1)] _
  refine xr_istore_2 cx dX2_lookAt_8 ?_
  refine xr_iload_2 cx dX2_lookAt_9 ?_
  refine xr_iconst (v := -1) cx dX2_lookAt_10 (by decide) ?_
  refine xr_icmp_ne (tgt := 57) cx dX2_lookAt_11 (by decide) (fun cq11 => ?_) (fun cq11 => ?_)
  · exact absurd rfl cq11
  · refine xr_aload_0 cx dX2_lookAt_14 ?_
    refine xr_getR cx dX2_lookAt_15 fl_X2_28 s0 rfl ?_
    refine xr_iload_1 cx dX2_lookAt_18 ?_
    refine xr_V1i (ν := mX3_show) cx dX2_lookAt_19 rfl ml_X2_107 vf_X3_show s13 (Nat.le_of_ble_eq_true rfl) (m_X3_show hL hs ?_)
    rw [hR.2]
    refine xr_if_eq (tgt := 41) cx dX2_lookAt_22 (by decide) (fun cq22 => ?_) (fun cq22 => ?_)
    · have hb : ¬ bt (mPh a) s = true := by intro q; rw [if_pos q] at cq22; exact absurd cq22 (by decide)
      rw [if_neg hb] at e0
      refine xr_aload_0 cx dX2_lookAt_41 ?_
      refine xr_getR cx dX2_lookAt_42 fl_X2_35 s0 rfl ?_
      refine xr_dup cx dX2_lookAt_45 rfl ?_
      refine xr_getI cx dX2_lookAt_46 fl_X2_114 s18 rfl ?_
      refine xr_iconst (v := 1) cx dX2_lookAt_49 (by decide) ?_
      refine xr_iadd cx dX2_lookAt_50 ?_
      refine xr_putI cx dX2_lookAt_51 fp_X2_114 s18 rfl ?_
      refine xr_goto (tgt := 112) cx dX2_lookAt_54 (by decide) ?_
      refine xr_vret cx cz dX2_lookAt_112 rfl ?_
      refine h _ ?_ (xfr_su σ _ (by decide))
      rw [e0]
      first | exact RB_tal (i := 2) hR2 (by decide) | exact RB_tal (i := 3) hR2 (by decide)
    · have hb : bt (mPh a) s = true := by by_cases q : bt (mPh a) s = true; exact q; rw [if_neg q] at cq22; exact absurd rfl cq22
      rw [if_pos hb] at e0
      refine xr_aload_0 cx dX2_lookAt_25 ?_
      refine xr_getR cx dX2_lookAt_26 fl_X2_35 s0 rfl ?_
      refine xr_dup cx dX2_lookAt_29 rfl ?_
      refine xr_getI cx dX2_lookAt_30 fl_X2_111 s18 rfl ?_
      refine xr_iconst (v := 1) cx dX2_lookAt_33 (by decide) ?_
      refine xr_iadd cx dX2_lookAt_34 ?_
      refine xr_putI cx dX2_lookAt_35 fp_X2_111 s18 rfl ?_
      refine xr_goto (tgt := 112) cx dX2_lookAt_38 (by decide) ?_
      refine xr_vret cx cz dX2_lookAt_112 rfl ?_
      refine h _ ?_ (xfr_su σ _ (by decide))
      rw [e0]
      first | exact RB_tal (i := 2) hR2 (by decide) | exact RB_tal (i := 3) hR2 (by decide)
theorem m_X2_lookAt_s {l : Launch} {E : XEnv} {d b : Nat} {σ : XSt} {Q : XSt → Prop} {s p : Nat} {a : Nat → Int32} (hL : xLec E b) (hR : RB σ b a) (hI : xIx a) (hs : s < 30) (hp : mPan a s = some p) (h : ∀ τ, RB τ b (mLook a s) → xfr σ τ b → Q τ) : XMv l E (d + 2) mX2_lookAt [.ref (xad E b), .int (nI s)] σ Q := by
  obtain ⟨ix1, ix2, ix3, ix4, iy1, iy2, iy3, iy4⟩ := id hI
  have e0 := mLook_some hp
  have hp6 := mPan_lt hp
  have hR2 : RB σ b (upd a (199 + s) (a (199 + s) + 1)) := RB_own (Or.inr (by omega)) hR iy4
  obtain ⟨s0, s1, s2, s3, s4, s5, s6, s7, s8, s9, s10, s11, s12, s13, s14, s15, s16, s17, s18, s19, s20⟩ := id hL
  refine xr_entry (lv := [some (.ref (xad E b)), some (.int (nI s)), none]) (by decide +kernel) (by simp [Value.category]) (Nat.le_of_ble_eq_true rfl) rfl (fun w hw cx cz => ?_)
  subst hw
  refine xr_aload_0 cx dX2_lookAt_0 ?_
  refine xr_getR cx dX2_lookAt_1 fl_X2_21 s0 rfl ?_
  refine xr_iload_1 cx dX2_lookAt_4 ?_
  refine xr_V1i (ν := mX0_panelWith) cx dX2_lookAt_5 rfl ml_X2_104 vf_X0_panelWith s6 (Nat.le_of_ble_eq_true rfl) (m_X0_panelWith hL hs ?_)
  rw [RB_pan hR, hp]
  show XG _ _ _ _ [.int (nI p)] _
  refine xr_istore_2 cx dX2_lookAt_8 ?_
  refine xr_iload_2 cx dX2_lookAt_9 ?_
  refine xr_iconst (v := -1) cx dX2_lookAt_10 (by decide) ?_
  refine xr_icmp_ne (tgt := 57) cx dX2_lookAt_11 (by decide) (fun cq11 => ?_) (fun cq11 => ?_)
  · refine xr_aload_0 cx dX2_lookAt_57 ?_
    refine xr_getR cx dX2_lookAt_58 fl_X2_21 s0 rfl ?_
    refine xr_iload_2 cx dX2_lookAt_61 ?_
    refine xr_V1i (ν := mX0_isInFront) cx dX2_lookAt_62 rfl ml_X2_117 vf_X0_isInFront s6 (Nat.le_of_ble_eq_true rfl) (m_X0_isInFront hL hp6 ?_)
    refine xr_if_ne (tgt := 112) cx dX2_lookAt_65 (by decide) (fun cq65 => ?_) (fun cq65 => ?_)
    · have hf : mFront a p = true := (RB_isFront hR hp6).mp (by by_cases q : σ (b + 12) (p / 2) = nI p; exact q; rw [if_neg q] at cq65; exact absurd rfl cq65)
      rw [if_pos hf] at e0
      refine xr_vret cx cz dX2_lookAt_112 rfl ?_
      refine h _ ?_ ?_
      · rw [e0]
        first | exact hR2 | exact RB_tal (i := 1) hR2 (by decide) | exact RB_turn hR2 (by omega)
      · first | exact xfr_rf σ b | exact xfr_su σ _ (by decide) | exact xfr_turn
    · have hf : ¬ mFront a p = true := fun q => by rw [if_pos ((RB_isFront hR hp6).mpr q)] at cq65; exact absurd cq65 (by decide)
      rw [if_neg hf] at e0
      refine xr_iload_2 cx dX2_lookAt_68 ?_
      refine xr_N1i (ν := mX8_columnOf) cx dX2_lookAt_69 rfl nl_X2_120 sf_X8_columnOf (Nat.le_of_ble_eq_true rfl) (m_X8_columnOf ?_)
      rw [x_shr1 (by omega)]
      refine xr_aload_0 cx dX2_lookAt_72 ?_
      refine xr_getR cx dX2_lookAt_73 fl_X2_21 s0 rfl ?_
      refine xr_getI cx dX2_lookAt_76 fl_X2_71 s6 rfl ?_
      rw [RB_use hR, ix3]
      refine xr_N1i (ν := mX8_columnOf) cx dX2_lookAt_79 rfl nl_X2_120 sf_X8_columnOf (Nat.le_of_ble_eq_true rfl) (m_X8_columnOf ?_)
      rw [x_shr1 (by omega)]
      refine xr_icmp_ne (tgt := 101) cx dX2_lookAt_82 (by decide) (fun cq82 => ?_) (fun cq82 => ?_)
      · rw [if_neg (fun q => cq82 (by rw [q]))] at e0
        refine xr_aload_0 cx dX2_lookAt_101 ?_
        refine xr_getR cx dX2_lookAt_102 fl_X2_21 s0 rfl ?_
        refine xr_iload_2 cx dX2_lookAt_105 ?_
        refine xr_N1i (ν := mX8_columnOf) cx dX2_lookAt_106 rfl nl_X2_120 sf_X8_columnOf (Nat.le_of_ble_eq_true rfl) (m_X8_columnOf ?_)
        rw [x_shr1 (by omega)]
        refine xr_V1v (ν := mX0_turn) cx dX2_lookAt_109 rfl ml_X2_126 vf_X0_turn s6 (Nat.le_of_ble_eq_true rfl) (m_X0_turn hL (by omega) ?_)
        refine xr_vret cx cz dX2_lookAt_112 rfl ?_
        refine h _ ?_ ?_
        · rw [e0]
          first | exact hR2 | exact RB_tal (i := 1) hR2 (by decide) | exact RB_turn hR2 (by omega)
        · first | exact xfr_rf σ b | exact xfr_su σ _ (by decide) | exact xfr_turn
      · rw [if_pos (nI_inj (by omega) (by omega) cq82)] at e0
        refine xr_aload_0 cx dX2_lookAt_85 ?_
        refine xr_getR cx dX2_lookAt_86 fl_X2_35 s0 rfl ?_
        refine xr_dup cx dX2_lookAt_89 rfl ?_
        refine xr_getI cx dX2_lookAt_90 fl_X2_123 s18 rfl ?_
        refine xr_iconst (v := 1) cx dX2_lookAt_93 (by decide) ?_
        refine xr_iadd cx dX2_lookAt_94 ?_
        refine xr_putI cx dX2_lookAt_95 fp_X2_123 s18 rfl ?_
        refine xr_goto (tgt := 112) cx dX2_lookAt_98 (by decide) ?_
        refine xr_vret cx cz dX2_lookAt_112 rfl ?_
        refine h _ ?_ ?_
        · rw [e0]
          first | exact hR2 | exact RB_tal (i := 1) hR2 (by decide) | exact RB_turn hR2 (by omega)
        · first | exact xfr_rf σ b | exact xfr_su σ _ (by decide) | exact xfr_turn
  · exact absurd cq11 (nI_nm1 (by omega))
theorem m_X2_lookAt {l : Launch} {E : XEnv} {d b : Nat} {σ : XSt} {Q : XSt → Prop} {s : Nat} {a : Nat → Int32} (hL : xLec E b) (hR : RB σ b a) (hI : xIx a) (hs : s < 30) (h : ∀ τ, RB τ b (mLook a s) → xfr σ τ b → Q τ) : XMv l E (d + 2) mX2_lookAt [.ref (xad E b), .int (nI s)] σ Q := by
  cases hp : mPan a s with
  | none => exact m_X2_lookAt_n hL hR hI hs hp h
  | some p => exact m_X2_lookAt_s hL hR hI hs hp h
theorem lp_X2_lookAtNeeds {E : XEnv} {d b : Nat} {Q : XSt → Prop} {w : XO} {N : Int32} (hL : xLec E b) (cx : CX (d + 3) w E mX2_lookAtNeeds) (cz : CZv w E Q) : ∀ n i {σ : XSt} {a : Nat → Int32}, i + n = 30 → RB σ b a → xIx a → (∀ τ, RB τ b (xit (fun s x => if bt N s = true then mLook x s else x) n i a) → xfr σ τ b → Q τ) → XG w E 2 [some (.ref (xad E b)), some (.int N), some (.int (nI i))] [] σ := by
  obtain ⟨s0, s1, s2, s3, s4, s5, s6, s7, s8, s9, s10, s11, s12, s13, s14, s15, s16, s17, s18, s19, s20⟩ := id hL
  intro n
  induction n with
  | zero =>
    intro i σ a hi hR hI h
    obtain rfl : i = 30 := by omega
    refine xr_iload_2 cx dX2_lookAtNeeds_2 ?_
    refine xr_bipush (v := 30) cx dX2_lookAtNeeds_3 (by decide) ?_
    refine xr_icmp_ge (tgt := 28) cx dX2_lookAtNeeds_5 (by decide) (fun cq5 => ?_) (fun cq5 => ?_)
    · refine xr_vret cx cz dX2_lookAtNeeds_28 rfl ?_
      exact h σ hR (xfr_rf σ b)
    · exact absurd (nI_le (a := 30) (b := 30) (by decide) (by decide)) cq5
  | succ n ih =>
    intro i σ a hi hR hI h
    refine xr_iload_2 cx dX2_lookAtNeeds_2 ?_
    refine xr_bipush (v := 30) cx dX2_lookAtNeeds_3 (by decide) ?_
    refine xr_icmp_ge (tgt := 28) cx dX2_lookAtNeeds_5 (by decide) (fun cq5 => ?_) (fun cq5 => ?_)
    · exact absurd cq5 (nI_ge (a := i) (b := 30) (by omega) (by decide))
    · refine xr_iload_1 cx dX2_lookAtNeeds_8 ?_
      refine xr_iload_2 cx dX2_lookAtNeeds_9 ?_
      refine xr_N1i (ν := mX8_bitOf) cx dX2_lookAtNeeds_10 rfl nl_X2_53 sf_X8_bitOf (Nat.le_of_ble_eq_true rfl) (m_X8_bitOf ?_)
      rw [xbitOf_in (by omega)]
      refine xr_iand cx dX2_lookAtNeeds_13 ?_
      refine xr_if_eq (tgt := 22) cx dX2_lookAtNeeds_14 (by decide) (fun cq14 => ?_) (fun cq14 => ?_)
      · have hb : bt N i = false := (xbit_tst (by omega)).mp cq14
        rw [xit_succ, if_neg (by rw [hb]; decide)] at h
        refine xr_iinc_2 (y := 1) cx dX2_lookAtNeeds_22 (by decide) ?_
        refine xr_goto (tgt := 2) cx dX2_lookAtNeeds_25 (by decide) ?_
        rw [nI_1]
        first | exact ih (i + 1) (by omega) hR hI h | exact ih (i + 1) (by omega) hR1 (mLook_ix hI) (fun ρ r1 r2 => h ρ r1 (xfr_tr hf1 r2))
      · have hb : bt N i = true := by cases hq : bt N i with | true => rfl | false => exact absurd ((xbit_tst (by omega)).mpr hq) cq14
        rw [xit_succ, if_pos hb] at h
        refine xr_aload_0 cx dX2_lookAtNeeds_17 ?_
        refine xr_iload_2 cx dX2_lookAtNeeds_18 ?_
        refine xr_V1v (ν := mX2_lookAt) cx dX2_lookAtNeeds_19 rfl ml_X2_101 vf_X2_lookAt s0 (Nat.le_of_ble_eq_true rfl) (m_X2_lookAt hL hR hI (by omega) (fun τ hR1 hf1 => ?_))
        refine xr_iinc_2 (y := 1) cx dX2_lookAtNeeds_22 (by decide) ?_
        refine xr_goto (tgt := 2) cx dX2_lookAtNeeds_25 (by decide) ?_
        rw [nI_1]
        first | exact ih (i + 1) (by omega) hR hI h | exact ih (i + 1) (by omega) hR1 (mLook_ix hI) (fun ρ r1 r2 => h ρ r1 (xfr_tr hf1 r2))
theorem m_X2_lookAtNeeds {l : Launch} {E : XEnv} {d b : Nat} {σ : XSt} {Q : XSt → Prop} {N : Int32} {a : Nat → Int32} (hL : xLec E b) (hR : RB σ b a) (hI : xIx a)  (h : ∀ τ, RB τ b (xit (fun s x => if bt N s = true then mLook x s else x) 30 0 a) → xfr σ τ b → Q τ) : XMv l E (d + 3) mX2_lookAtNeeds [.ref (xad E b), .int N] σ Q := by
  obtain ⟨s0, s1, s2, s3, s4, s5, s6, s7, s8, s9, s10, s11, s12, s13, s14, s15, s16, s17, s18, s19, s20⟩ := id hL
  refine xr_entry (lv := [some (.ref (xad E b)), some (.int N), none]) (by decide +kernel) (by simp [Value.category]) (Nat.le_of_ble_eq_true rfl) rfl (fun w hw cx cz => ?_)
  subst hw
  refine xr_iconst (v := 0) cx dX2_lookAtNeeds_0 (by decide) ?_
  refine xr_istore_2 cx dX2_lookAtNeeds_1 ?_
  exact lp_X2_lookAtNeeds hL cx cz 30 0 rfl hR hI h
theorem RB_copy {σ τ : XSt} {b c : Nat} {a : Nat → Int32} (h : RB σ c a) (h1 : ∀ i j k, kap i j = some k → τ (b + i) j = σ (c + i) j) (h2 : τ (b + 13) 3 = σ (c + 13) 3) : RB τ b a := ⟨fun i j k hk => (h1 i j k hk).trans (h.1 i j k hk), h2.trans h.2⟩
