theorem m_X9_isFront {l : Launch} {E : XEnv} {d : Nat} {σ : XSt} {a : Nat → Int32} {Q : Int32 → XSt → Prop} (hG : xGl E) {p : Nat} (hp : p < 6) (h : Q (if mFront a p = true then 1 else 0) (su σ 1 a)) : XMi l E d mX9_isFront [.ref (xad E 0), .int (nI p)] (su σ 1 a) Q := by
  have g0 := hG.1
  have g1 := hG.2.1
  have g2 := hG.2.2.1
  have g3 := hG.2.2.2.1
  have g4 := hG.2.2.2.2.1
  have g5 := hG.2.2.2.2.2.1
  have g6 := hG.2.2.2.2.2.2.1
  have g7 := hG.2.2.2.2.2.2.2.1
  refine xr_entry (lv := [some (.ref (xad E 0)), some (.int (nI p))]) (by decide +kernel) (by simp [Value.category]) (Nat.le_of_ble_eq_true rfl) rfl (fun w hw cx cz => ?_)
  subst hw
  refine xr_aload_0 cx dX9_isFront_0 ?_
  refine xr_getR cx dX9_isFront_1 fl_X9_7 g0 rfl ?_
  refine xr_iconst (v := 4) cx dX9_isFront_4 (by decide) ?_
  refine xr_iload_1 cx dX9_isFront_5 ?_
  refine xr_iconst (v := 2) cx dX9_isFront_6 (by decide) ?_
  refine xr_idiv cx dX9_isFront_7 (by decide) ?_
  refine xr_iadd cx dX9_isFront_8 ?_
  refine xr_ialdN (j := 4 + p / 2) cx dX9_isFront_9 g1 (by rw [x_d2 (by omega)]; exact nI_add 4 (p / 2)) (by omega) (by decide) ?_
  rw [su_same]
  refine xr_iload_1 cx dX9_isFront_10 ?_
  refine xr_icmp_ne (tgt := 18) cx dX9_isFront_11 (by decide) (fun cq11 => ?_) (fun cq11 => ?_)
  · refine xr_iconst (v := 0) cx dX9_isFront_18 (by decide) ?_
    refine xr_zret cx cz dX9_isFront_19 rfl rfl ?_
    first | exact q_i h (if_pos (decide_eq_true cq11)).symm | exact q_i h (if_neg (fun q => cq11 (of_decide_eq_true q))).symm
  · refine xr_iconst (v := 1) cx dX9_isFront_14 (by decide) ?_
    refine xr_goto (tgt := 19) cx dX9_isFront_15 (by decide) ?_
    refine xr_zret cx cz dX9_isFront_19 rfl rfl ?_
    first | exact q_i h (if_pos (decide_eq_true cq11)).symm | exact q_i h (if_neg (fun q => cq11 (of_decide_eq_true q))).symm
theorem m_X9_isPinned {l : Launch} {E : XEnv} {d : Nat} {σ : XSt} {a : Nat → Int32} {Q : Int32 → XSt → Prop} (hG : xGl E) {p : Nat} (hp : p < 32) (h : Q (if bt (a 7) p = true then 1 else 0) (su σ 1 a)) : XMi l E d mX9_isPinned [.ref (xad E 0), .int (nI p)] (su σ 1 a) Q := by
  have g0 := hG.1
  have g1 := hG.2.1
  have g2 := hG.2.2.1
  have g3 := hG.2.2.2.1
  have g4 := hG.2.2.2.2.1
  have g5 := hG.2.2.2.2.2.1
  have g6 := hG.2.2.2.2.2.2.1
  have g7 := hG.2.2.2.2.2.2.2.1
  refine xr_entry (lv := [some (.ref (xad E 0)), some (.int (nI p))]) (by decide +kernel) (by simp [Value.category]) (Nat.le_of_ble_eq_true rfl) rfl (fun w hw cx cz => ?_)
  subst hw
  refine xr_aload_0 cx dX9_isPinned_0 ?_
  refine xr_getR cx dX9_isPinned_1 fl_X9_7 g0 rfl ?_
  refine xr_bipush (v := 7) cx dX9_isPinned_4 (by decide) ?_
  refine xr_ialdN (j := 7) cx dX9_isPinned_6 g1 rfl (by decide) (by decide) ?_
  rw [su_same]
  refine xr_iload_1 cx dX9_isPinned_7 ?_
  refine xr_ishr cx dX9_isPinned_8 ?_
  refine xr_iconst (v := 1) cx dX9_isPinned_9 (by decide) ?_
  refine xr_iand cx dX9_isPinned_10 ?_
  refine xr_iconst (v := 1) cx dX9_isPinned_11 (by decide) ?_
  refine xr_icmp_ne (tgt := 19) cx dX9_isPinned_12 (by decide) (fun cq12 => ?_) (fun cq12 => ?_)
  · refine xr_iconst (v := 0) cx dX9_isPinned_19 (by decide) ?_
    refine xr_zret cx cz dX9_isPinned_20 rfl rfl ?_
    first | exact q_i h (if_pos ((b_shr1T (by omega)).mp cq12)).symm | exact q_i h (if_neg (fun q => cq12 ((b_shr1T (by omega)).mpr q))).symm
  · refine xr_iconst (v := 1) cx dX9_isPinned_15 (by decide) ?_
    refine xr_goto (tgt := 20) cx dX9_isPinned_16 (by decide) ?_
    refine xr_zret cx cz dX9_isPinned_20 rfl rfl ?_
    first | exact q_i h (if_pos ((b_shr1T (by omega)).mp cq12)).symm | exact q_i h (if_neg (fun q => cq12 ((b_shr1T (by omega)).mpr q))).symm
theorem lp_X9_linesOn {E : XEnv} {d : Nat} {σ : XSt} {a : Nat → Int32} {Q : Int32 → XSt → Prop} {w : XO} {p : Nat} (hp : p < 6) (hI : xIx a) (hG : xGl E) (cx : CX d w E mX9_linesOn) (cz : CZi w E Q) : ∀ n i (x : Int32), i + n = mSt a → Q (xit (fun s acc => acc + (if bt (a (17 + p)) s = true then a (109 + s) else 0)) n i x) (su σ 1 a) → XG w E 4 [some (.ref (xad E 0)), some (.int (nI p)), some (.int x), some (.int (nI i))] [] (su σ 1 a) := by
  have g0 := hG.1
  have g1 := hG.2.1
  have g2 := hG.2.2.1
  have g3 := hG.2.2.2.1
  have g4 := hG.2.2.2.2.1
  have g5 := hG.2.2.2.2.2.1
  have g6 := hG.2.2.2.2.2.2.1
  have g7 := hG.2.2.2.2.2.2.2.1
  obtain ⟨ix1, ix2, ix3, ix4, iy1, iy2, iy3, iy4⟩ := id hI
  intro n
  induction n with
  | zero =>
    intro i x hi h
    refine xr_iload_3 cx dX9_linesOn_4 ?_
    refine xr_aload_0 cx dX9_linesOn_5 ?_
    refine xr_getR cx dX9_linesOn_6 fl_X9_7 g0 rfl ?_
    refine xr_iconst (v := 1) cx dX9_linesOn_9 (by decide) ?_
    refine xr_ialdN (j := 1) cx dX9_linesOn_10 g1 rfl (by decide) (by decide) ?_
    rw [su_same]
    rw [ix1]
    refine xr_icmp_ge (tgt := 53) cx dX9_linesOn_11 (by decide) (fun cq11 => ?_) (fun cq11 => ?_)
    · refine xr_iload_2 cx dX9_linesOn_53 ?_
      refine xr_iret cx cz dX9_linesOn_54 rfl ?_
      exact h
    · exact absurd (nI_le (a := mSt a) (b := i) (by omega) (by omega)) cq11
  | succ n ih =>
    intro i x hi h
    refine xr_iload_3 cx dX9_linesOn_4 ?_
    refine xr_aload_0 cx dX9_linesOn_5 ?_
    refine xr_getR cx dX9_linesOn_6 fl_X9_7 g0 rfl ?_
    refine xr_iconst (v := 1) cx dX9_linesOn_9 (by decide) ?_
    refine xr_ialdN (j := 1) cx dX9_linesOn_10 g1 rfl (by decide) (by decide) ?_
    rw [su_same]
    rw [ix1]
    refine xr_icmp_ge (tgt := 53) cx dX9_linesOn_11 (by decide) (fun cq11 => ?_) (fun cq11 => ?_)
    · exact absurd cq11 (nI_ge (a := i) (b := mSt a) (by omega) (by omega))
    · refine xr_iload_2 cx dX9_linesOn_14 ?_
      refine xr_aload_0 cx dX9_linesOn_15 ?_
      refine xr_getR cx dX9_linesOn_16 fl_X9_7 g0 rfl ?_
      refine xr_bipush (v := 17) cx dX9_linesOn_19 (by decide) ?_
      refine xr_iload_1 cx dX9_linesOn_21 ?_
      refine xr_iadd cx dX9_linesOn_22 ?_
      refine xr_ialdN (j := 17 + p) cx dX9_linesOn_23 g1 (nI_add 17 p) (by omega) (by decide) ?_
      rw [su_same]
      refine xr_iload_3 cx dX9_linesOn_24 ?_
      refine xr_ishr cx dX9_linesOn_25 ?_
      refine xr_iconst (v := 1) cx dX9_linesOn_26 (by decide) ?_
      refine xr_iand cx dX9_linesOn_27 ?_
      refine xr_iconst (v := 1) cx dX9_linesOn_28 (by decide) ?_
      refine xr_icmp_ne (tgt := 44) cx dX9_linesOn_29 (by decide) (fun cq29 => ?_) (fun cq29 => ?_)
      · rw [xit_succ, if_neg (fun q => cq29 ((b_shr1T (by omega)).mpr q))] at h
        refine xr_iconst (v := 0) cx dX9_linesOn_44 (by decide) ?_
        refine xr_iadd cx dX9_linesOn_45 ?_
        refine xr_istore_2 cx dX9_linesOn_46 ?_
        refine xr_iinc_3 (y := 1) cx dX9_linesOn_47 (by decide) ?_
        refine xr_goto (tgt := 4) cx dX9_linesOn_50 (by decide) ?_
        rw [nI_1]
        exact ih (i + 1) _ (by omega) h
      · rw [xit_succ, if_pos ((b_shr1T (by omega)).mp cq29)] at h
        refine xr_aload_0 cx dX9_linesOn_32 ?_
        refine xr_getR cx dX9_linesOn_33 fl_X9_7 g0 rfl ?_
        refine xr_bipush (v := 109) cx dX9_linesOn_36 (by decide) ?_
        refine xr_iload_3 cx dX9_linesOn_38 ?_
        refine xr_iadd cx dX9_linesOn_39 ?_
        refine xr_ialdN (j := 109 + i) cx dX9_linesOn_40 g1 (nI_add 109 i) (by omega) (by decide) ?_
        rw [su_same]
        refine xr_goto (tgt := 45) cx dX9_linesOn_41 (by decide) ?_
        refine xr_iadd cx dX9_linesOn_45 ?_
        refine xr_istore_2 cx dX9_linesOn_46 ?_
        refine xr_iinc_3 (y := 1) cx dX9_linesOn_47 (by decide) ?_
        refine xr_goto (tgt := 4) cx dX9_linesOn_50 (by decide) ?_
        rw [nI_1]
        exact ih (i + 1) _ (by omega) h
theorem m_X9_linesOn {l : Launch} {E : XEnv} {d : Nat} {σ : XSt} {a : Nat → Int32} {Q : Int32 → XSt → Prop} (hG : xGl E) {p : Nat} (hp : p < 6) (hI : xIx a)  (h : Q (mLines a p) (su σ 1 a)) : XMi l E d mX9_linesOn [.ref (xad E 0), .int (nI p)] (su σ 1 a) Q := by
  have g0 := hG.1
  have g1 := hG.2.1
  have g2 := hG.2.2.1
  have g3 := hG.2.2.2.1
  have g4 := hG.2.2.2.2.1
  have g5 := hG.2.2.2.2.2.1
  have g6 := hG.2.2.2.2.2.2.1
  have g7 := hG.2.2.2.2.2.2.2.1
  refine xr_entry (lv := [some (.ref (xad E 0)), some (.int (nI p)), none, none]) (by decide +kernel) (by simp [Value.category]) (Nat.le_of_ble_eq_true rfl) rfl (fun w hw cx cz => ?_)
  subst hw
  refine xr_iconst (v := 0) cx dX9_linesOn_0 (by decide) ?_
  refine xr_istore_2 cx dX9_linesOn_1 ?_
  refine xr_iconst (v := 0) cx dX9_linesOn_2 (by decide) ?_
  refine xr_istore_3 cx dX9_linesOn_3 ?_
  exact lp_X9_linesOn hp hI hG cx cz (mSt a) 0 0 (by omega) h
theorem lp_X9_panelOf {E : XEnv} {d : Nat} {σ : XSt} {a : Nat → Int32} {Q : Int32 → XSt → Prop} {w : XO} {s : Nat} (hs : s < 30) (hG : xGl E) (cx : CX d w E mX9_panelOf) (cz : CZi w E Q) : ∀ n i , i + n = 6 → Q (pnn (xfst (fun p => bt (a (17 + p)) s) n i)) (su σ 1 a) → XG w E 2 [some (.ref (xad E 0)), some (.int (nI s)), some (.int (nI i))] [] (su σ 1 a) := by
  have g0 := hG.1
  have g1 := hG.2.1
  have g2 := hG.2.2.1
  have g3 := hG.2.2.2.1
  have g4 := hG.2.2.2.2.1
  have g5 := hG.2.2.2.2.2.1
  have g6 := hG.2.2.2.2.2.2.1
  have g7 := hG.2.2.2.2.2.2.2.1
  intro n
  induction n with
  | zero =>
    intro i hi h
    obtain rfl : i = 6 := by omega
    refine xr_iload_2 cx dX9_panelOf_2 ?_
    refine xr_bipush (v := 6) cx dX9_panelOf_3 (by decide) ?_
    refine xr_icmp_ge (tgt := 33) cx dX9_panelOf_5 (by decide) (fun cq5 => ?_) (fun cq5 => ?_)
    · refine xr_bipush (v := -5) cx dX9_panelOf_33 (by decide) ?_
      refine xr_iret cx cz dX9_panelOf_35 rfl ?_
      exact h
    · exact absurd (nI_le (a := 6) (b := 6) (by decide) (by decide)) cq5
  | succ n ih =>
    intro i hi h
    refine xr_iload_2 cx dX9_panelOf_2 ?_
    refine xr_bipush (v := 6) cx dX9_panelOf_3 (by decide) ?_
    refine xr_icmp_ge (tgt := 33) cx dX9_panelOf_5 (by decide) (fun cq5 => ?_) (fun cq5 => ?_)
    · exact absurd cq5 (nI_ge (a := i) (b := 6) (by omega) (by decide))
    · refine xr_aload_0 cx dX9_panelOf_8 ?_
      refine xr_getR cx dX9_panelOf_9 fl_X9_7 g0 rfl ?_
      refine xr_bipush (v := 17) cx dX9_panelOf_12 (by decide) ?_
      refine xr_iload_2 cx dX9_panelOf_14 ?_
      refine xr_iadd cx dX9_panelOf_15 ?_
      refine xr_ialdN (j := 17 + i) cx dX9_panelOf_16 g1 (nI_add 17 i) (by omega) (by decide) ?_
      rw [su_same]
      refine xr_iload_1 cx dX9_panelOf_17 ?_
      refine xr_ishr cx dX9_panelOf_18 ?_
      refine xr_iconst (v := 1) cx dX9_panelOf_19 (by decide) ?_
      refine xr_iand cx dX9_panelOf_20 ?_
      refine xr_iconst (v := 1) cx dX9_panelOf_21 (by decide) ?_
      refine xr_icmp_ne (tgt := 27) cx dX9_panelOf_22 (by decide) (fun cq22 => ?_) (fun cq22 => ?_)
      · rw [xfst, if_neg (fun q => cq22 ((b_shr1T (by omega)).mpr q))] at h
        refine xr_iinc_2 (y := 1) cx dX9_panelOf_27 (by decide) ?_
        refine xr_goto (tgt := 2) cx dX9_panelOf_30 (by decide) ?_
        rw [nI_1]
        exact ih (i + 1) (by omega) h
      · rw [xfst, if_pos ((b_shr1T (by omega)).mp cq22)] at h
        refine xr_iload_2 cx dX9_panelOf_25 ?_
        refine xr_iret cx cz dX9_panelOf_26 rfl ?_
        exact h
theorem m_X9_panelOf {l : Launch} {E : XEnv} {d : Nat} {σ : XSt} {a : Nat → Int32} {Q : Int32 → XSt → Prop} (hG : xGl E) {s : Nat} (hs : s < 30) (h : Q (pnn (mPan a s)) (su σ 1 a)) : XMi l E d mX9_panelOf [.ref (xad E 0), .int (nI s)] (su σ 1 a) Q := by
  have g0 := hG.1
  have g1 := hG.2.1
  have g2 := hG.2.2.1
  have g3 := hG.2.2.2.1
  have g4 := hG.2.2.2.2.1
  have g5 := hG.2.2.2.2.2.1
  have g6 := hG.2.2.2.2.2.2.1
  have g7 := hG.2.2.2.2.2.2.2.1
  refine xr_entry (lv := [some (.ref (xad E 0)), some (.int (nI s)), none]) (by decide +kernel) (by simp [Value.category]) (Nat.le_of_ble_eq_true rfl) rfl (fun w hw cx cz => ?_)
  subst hw
  refine xr_iconst (v := 0) cx dX9_panelOf_0 (by decide) ?_
  refine xr_istore_2 cx dX9_panelOf_1 ?_
  exact lp_X9_panelOf hs hG cx cz 6 0 rfl h
theorem lp_X9_onPhotos {E : XEnv} {d : Nat} {σ : XSt} {a : Nat → Int32} {Q : Int32 → XSt → Prop} {w : XO} (hI : xIx a) (hG : xGl E) (cx : CX d w E mX9_onPhotos) (cz : CZi w E Q) : ∀ n i (x : Int32), i + n = mTk a → Q (xit (fun k acc => acc ||| a (69 + k)) n i x) (su σ 1 a) → XG w E 4 [some (.ref (xad E 0)), some (.int x), some (.int (nI i))] [] (su σ 1 a) := by
  have g0 := hG.1
  have g1 := hG.2.1
  have g2 := hG.2.2.1
  have g3 := hG.2.2.2.1
  have g4 := hG.2.2.2.2.1
  have g5 := hG.2.2.2.2.2.1
  have g6 := hG.2.2.2.2.2.2.1
  have g7 := hG.2.2.2.2.2.2.2.1
  obtain ⟨ix1, ix2, ix3, ix4, iy1, iy2, iy3, iy4⟩ := id hI
  intro n
  induction n with
  | zero =>
    intro i x hi h
    refine xr_iload_2 cx dX9_onPhotos_4 ?_
    refine xr_aload_0 cx dX9_onPhotos_5 ?_
    refine xr_getR cx dX9_onPhotos_6 fl_X9_7 g0 rfl ?_
    refine xr_bipush (v := 10) cx dX9_onPhotos_9 (by decide) ?_
    refine xr_ialdN (j := 10) cx dX9_onPhotos_11 g1 rfl (by decide) (by decide) ?_
    rw [su_same]
    rw [ix4]
    refine xr_icmp_ge (tgt := 33) cx dX9_onPhotos_12 (by decide) (fun cq12 => ?_) (fun cq12 => ?_)
    · refine xr_iload_1 cx dX9_onPhotos_33 ?_
      refine xr_iret cx cz dX9_onPhotos_34 rfl ?_
      exact h
    · exact absurd (nI_le (a := mTk a) (b := i) (by omega) (by omega)) cq12
  | succ n ih =>
    intro i x hi h
    refine xr_iload_2 cx dX9_onPhotos_4 ?_
    refine xr_aload_0 cx dX9_onPhotos_5 ?_
    refine xr_getR cx dX9_onPhotos_6 fl_X9_7 g0 rfl ?_
    refine xr_bipush (v := 10) cx dX9_onPhotos_9 (by decide) ?_
    refine xr_ialdN (j := 10) cx dX9_onPhotos_11 g1 rfl (by decide) (by decide) ?_
    rw [su_same]
    rw [ix4]
    refine xr_icmp_ge (tgt := 33) cx dX9_onPhotos_12 (by decide) (fun cq12 => ?_) (fun cq12 => ?_)
    · exact absurd cq12 (nI_ge (a := i) (b := mTk a) (by omega) (by omega))
    · refine xr_iload_1 cx dX9_onPhotos_15 ?_
      refine xr_aload_0 cx dX9_onPhotos_16 ?_
      refine xr_getR cx dX9_onPhotos_17 fl_X9_7 g0 rfl ?_
      refine xr_bipush (v := 69) cx dX9_onPhotos_20 (by decide) ?_
      refine xr_iload_2 cx dX9_onPhotos_22 ?_
      refine xr_iadd cx dX9_onPhotos_23 ?_
      refine xr_ialdN (j := 69 + i) cx dX9_onPhotos_24 g1 (nI_add 69 i) (by omega) (by decide) ?_
      rw [su_same]
      refine xr_ior cx dX9_onPhotos_25 ?_
      refine xr_istore_1 cx dX9_onPhotos_26 ?_
      refine xr_iinc_2 (y := 1) cx dX9_onPhotos_27 (by decide) ?_
      refine xr_goto (tgt := 4) cx dX9_onPhotos_30 (by decide) ?_
      rw [nI_1]
      exact ih (i + 1) _ (by omega) h
theorem m_X9_onPhotos {l : Launch} {E : XEnv} {d : Nat} {σ : XSt} {a : Nat → Int32} {Q : Int32 → XSt → Prop} (hG : xGl E) (hI : xIx a)  (h : Q (mPh a) (su σ 1 a)) : XMi l E d mX9_onPhotos [.ref (xad E 0)] (su σ 1 a) Q := by
  have g0 := hG.1
  have g1 := hG.2.1
  have g2 := hG.2.2.1
  have g3 := hG.2.2.2.1
  have g4 := hG.2.2.2.2.1
  have g5 := hG.2.2.2.2.2.1
  have g6 := hG.2.2.2.2.2.2.1
  have g7 := hG.2.2.2.2.2.2.2.1
  refine xr_entry (lv := [some (.ref (xad E 0)), none, none]) (by decide +kernel) (by simp [Value.category]) (Nat.le_of_ble_eq_true rfl) rfl (fun w hw cx cz => ?_)
  subst hw
  refine xr_iconst (v := 0) cx dX9_onPhotos_0 (by decide) ?_
  refine xr_istore_1 cx dX9_onPhotos_1 ?_
  refine xr_iconst (v := 0) cx dX9_onPhotos_2 (by decide) ?_
  refine xr_istore_2 cx dX9_onPhotos_3 ?_
  exact lp_X9_onPhotos hI hG cx cz (mTk a) 0 0 (by omega) h
theorem m_X9_isOnPhoto {l : Launch} {E : XEnv} {d : Nat} {σ : XSt} {a : Nat → Int32} {Q : Int32 → XSt → Prop} (hG : xGl E) {s : Nat} (hs : s < 30) (hI : xIx a)  (h : Q (if bt (mPh a) s = true then 1 else 0) (su σ 1 a)) : XMi l E (d + 1) mX9_isOnPhoto [.ref (xad E 0), .int (nI s)] (su σ 1 a) Q := by
  have g0 := hG.1
  have g1 := hG.2.1
  have g2 := hG.2.2.1
  have g3 := hG.2.2.2.1
  have g4 := hG.2.2.2.2.1
  have g5 := hG.2.2.2.2.2.1
  have g6 := hG.2.2.2.2.2.2.1
  have g7 := hG.2.2.2.2.2.2.2.1
  refine xr_entry (lv := [some (.ref (xad E 0)), some (.int (nI s))]) (by decide +kernel) (by simp [Value.category]) (Nat.le_of_ble_eq_true rfl) rfl (fun w hw cx cz => ?_)
  subst hw
  refine xr_aload_0 cx dX9_isOnPhoto_0 ?_
  refine xr_V0i (ν := mX9_onPhotos) cx dX9_isOnPhoto_1 rfl ml_X9_41 vf_X9_onPhotos g0 (Nat.le_of_ble_eq_true rfl) (m_X9_onPhotos hG hI ?_)
  refine xr_iload_1 cx dX9_isOnPhoto_4 ?_
  refine xr_ishr cx dX9_isOnPhoto_5 ?_
  refine xr_iconst (v := 1) cx dX9_isOnPhoto_6 (by decide) ?_
  refine xr_iand cx dX9_isOnPhoto_7 ?_
  refine xr_iconst (v := 1) cx dX9_isOnPhoto_8 (by decide) ?_
  refine xr_icmp_ne (tgt := 16) cx dX9_isOnPhoto_9 (by decide) (fun cq9 => ?_) (fun cq9 => ?_)
  · refine xr_iconst (v := 0) cx dX9_isOnPhoto_16 (by decide) ?_
    refine xr_zret cx cz dX9_isOnPhoto_17 rfl rfl ?_
    first | exact q_i h (if_pos ((b_shr1T (by omega)).mp cq9)).symm | exact q_i h (if_neg (fun q => cq9 ((b_shr1T (by omega)).mpr q))).symm
  · refine xr_iconst (v := 1) cx dX9_isOnPhoto_12 (by decide) ?_
    refine xr_goto (tgt := 17) cx dX9_isOnPhoto_13 (by decide) ?_
    refine xr_zret cx cz dX9_isOnPhoto_17 rfl rfl ?_
    first | exact q_i h (if_pos ((b_shr1T (by omega)).mp cq9)).symm | exact q_i h (if_neg (fun q => cq9 ((b_shr1T (by omega)).mpr q))).symm
theorem m_X9_pulls {l : Launch} {E : XEnv} {d : Nat} {σ : XSt} {a : Nat → Int32} {Q : XSt → Prop} (hG : xGl E) {c : Nat} (hc : c < 3) (h : Q (su σ 1 (mPull a c))) : XMv l E d mX9_pulls [.ref (xad E 0), .int (nI c)] (su σ 1 a) Q := by
  have g0 := hG.1
  have g1 := hG.2.1
  have g2 := hG.2.2.1
  have g3 := hG.2.2.2.1
  have g4 := hG.2.2.2.2.1
  have g5 := hG.2.2.2.2.2.1
  have g6 := hG.2.2.2.2.2.2.1
  have g7 := hG.2.2.2.2.2.2.2.1
  refine xr_entry (lv := [some (.ref (xad E 0)), some (.int (nI c))]) (by decide +kernel) (by simp [Value.category]) (Nat.le_of_ble_eq_true rfl) rfl (fun w hw cx cz => ?_)
  subst hw
  refine xr_aload_0 cx dX9_pulls_0 ?_
  refine xr_getR cx dX9_pulls_1 fl_X9_7 g0 rfl ?_
  refine xr_iconst (v := 4) cx dX9_pulls_4 (by decide) ?_
  refine xr_iload_1 cx dX9_pulls_5 ?_
  refine xr_iadd cx dX9_pulls_6 ?_
  refine xr_dup2 cx dX9_pulls_7 rfl rfl ?_
  refine xr_ialdN (j := 4 + c) cx dX9_pulls_8 g1 (nI_add 4 c) (by omega) (by decide) ?_
  rw [su_same]
  refine xr_iconst (v := 1) cx dX9_pulls_9 (by decide) ?_
  refine xr_ixor cx dX9_pulls_10 ?_
  refine xr_iastN (j := 4 + c) cx dX9_pulls_11 g1 (nI_add 4 c) (by omega) (by decide) ?_
  rw [su_same, su_su]
  refine xr_aload_0 cx dX9_pulls_12 ?_
  refine xr_getR cx dX9_pulls_13 fl_X9_7 g0 rfl ?_
  refine xr_bipush (v := 8) cx dX9_pulls_16 (by decide) ?_
  refine xr_dup2 cx dX9_pulls_18 rfl rfl ?_
  refine xr_ialdN (j := 8) cx dX9_pulls_19 g1 rfl (by decide) (by decide) ?_
  rw [su_same]
  refine xr_iconst (v := 1) cx dX9_pulls_20 (by decide) ?_
  refine xr_iadd cx dX9_pulls_21 ?_
  refine xr_iastN (j := 8) cx dX9_pulls_22 g1 rfl (by decide) (by decide) ?_
  rw [su_same, su_su]
  refine xr_vret cx cz dX9_pulls_23 rfl ?_
  exact q_s h (by unfold mPull; rw [upd_ne _ _ (by omega)])
theorem m_X9_wipes {l : Launch} {E : XEnv} {d : Nat} {σ : XSt} {a : Nat → Int32} {Q : XSt → Prop} (hG : xGl E) {p : Nat} (hp : p < 6) (h : Q (su σ 1 (mWipe a p))) : XMv l E d mX9_wipes [.ref (xad E 0), .int (nI p)] (su σ 1 a) Q := by
  have g0 := hG.1
  have g1 := hG.2.1
  have g2 := hG.2.2.1
  have g3 := hG.2.2.2.1
  have g4 := hG.2.2.2.2.1
  have g5 := hG.2.2.2.2.2.1
  have g6 := hG.2.2.2.2.2.2.1
  have g7 := hG.2.2.2.2.2.2.2.1
  refine xr_entry (lv := [some (.ref (xad E 0)), some (.int (nI p))]) (by decide +kernel) (by simp [Value.category]) (Nat.le_of_ble_eq_true rfl) rfl (fun w hw cx cz => ?_)
  subst hw
  refine xr_aload_0 cx dX9_wipes_0 ?_
  refine xr_getR cx dX9_wipes_1 fl_X9_7 g0 rfl ?_
  refine xr_bipush (v := 17) cx dX9_wipes_4 (by decide) ?_
  refine xr_iload_1 cx dX9_wipes_6 ?_
  refine xr_iadd cx dX9_wipes_7 ?_
  refine xr_iconst (v := 0) cx dX9_wipes_8 (by decide) ?_
  refine xr_iastN (j := 17 + p) cx dX9_wipes_9 g1 (nI_add 17 p) (by omega) (by decide) ?_
  rw [su_same, su_su]
  refine xr_aload_0 cx dX9_wipes_10 ?_
  refine xr_getR cx dX9_wipes_11 fl_X9_7 g0 rfl ?_
  refine xr_bipush (v := 23) cx dX9_wipes_14 (by decide) ?_
  refine xr_iload_1 cx dX9_wipes_16 ?_
  refine xr_iadd cx dX9_wipes_17 ?_
  refine xr_dup2 cx dX9_wipes_18 rfl rfl ?_
  refine xr_ialdN (j := 23 + p) cx dX9_wipes_19 g1 (nI_add 23 p) (by omega) (by decide) ?_
  rw [su_same]
  refine xr_iconst (v := 1) cx dX9_wipes_20 (by decide) ?_
  refine xr_iadd cx dX9_wipes_21 ?_
  refine xr_iastN (j := 23 + p) cx dX9_wipes_22 g1 (nI_add 23 p) (by omega) (by decide) ?_
  rw [su_same, su_su]
  refine xr_aload_0 cx dX9_wipes_23 ?_
  refine xr_getR cx dX9_wipes_24 fl_X9_7 g0 rfl ?_
  refine xr_bipush (v := 9) cx dX9_wipes_27 (by decide) ?_
  refine xr_dup2 cx dX9_wipes_29 rfl rfl ?_
  refine xr_ialdN (j := 9) cx dX9_wipes_30 g1 rfl (by decide) (by decide) ?_
  rw [su_same]
  refine xr_iconst (v := 1) cx dX9_wipes_31 (by decide) ?_
  refine xr_iadd cx dX9_wipes_32 ?_
  refine xr_iastN (j := 9) cx dX9_wipes_33 g1 rfl (by decide) (by decide) ?_
  rw [su_same, su_su]
  refine xr_vret cx cz dX9_wipes_34 rfl ?_
  exact q_s h (by unfold mWipe; rw [upd_ne a _ (show 23 + p ≠ 17 + p by omega), upd_ne _ _ (show 9 ≠ 23 + p by omega), upd_ne _ _ (show 9 ≠ 17 + p by omega)])
theorem lp_X9_panelForNext {E : XEnv} {d : Nat} {σ : XSt} {a : Nat → Int32} {Q : Int32 → XSt → Prop} {w : XO} {u : Nat} (hu : u < 6) (hG : xGl E) (cx : CX (d + 1) w E mX9_panelForNext) (cz : CZi w E Q) : ∀ n i (x : Option Value), i + n = 6 → Q (pnn ((xfst (fun k => !mPin a ((u + k) % 6)) n i).map (fun k => (u + k) % 6))) (su σ 1 a) → XG w E 40 [some (.ref (xad E 0)), some (.int (nI u)), some (.int (nI i)), x] [] (su σ 1 a) := by
  have g0 := hG.1
  have g1 := hG.2.1
  have g2 := hG.2.2.1
  have g3 := hG.2.2.2.1
  have g4 := hG.2.2.2.2.1
  have g5 := hG.2.2.2.2.2.1
  have g6 := hG.2.2.2.2.2.2.1
  have g7 := hG.2.2.2.2.2.2.2.1
  intro n
  induction n with
  | zero =>
    intro i x hi h
    obtain rfl : i = 6 := by omega
    refine xr_iload_2 cx dX9_panelForNext_40 ?_
    refine xr_bipush (v := 6) cx dX9_panelForNext_41 (by decide) ?_
    refine xr_icmp_ge (tgt := 69) cx dX9_panelForNext_43 (by decide) (fun cq43 => ?_) (fun cq43 => ?_)
    · refine xr_bipush (v := -5) cx dX9_panelForNext_69 (by decide) ?_
      refine xr_iret cx cz dX9_panelForNext_71 rfl ?_
      exact h
    · exact absurd (nI_le (a := 6) (b := 6) (by decide) (by decide)) cq43
  | succ n ih =>
    intro i x hi h
    refine xr_iload_2 cx dX9_panelForNext_40 ?_
    refine xr_bipush (v := 6) cx dX9_panelForNext_41 (by decide) ?_
    refine xr_icmp_ge (tgt := 69) cx dX9_panelForNext_43 (by decide) (fun cq43 => ?_) (fun cq43 => ?_)
    · exact absurd cq43 (nI_ge (a := i) (b := 6) (by omega) (by decide))
    · refine xr_iload_1 cx dX9_panelForNext_46 ?_
      refine xr_iload_2 cx dX9_panelForNext_47 ?_
      refine xr_iadd cx dX9_panelForNext_48 ?_
      rw [nI_add]
      refine xr_bipush (v := 6) cx dX9_panelForNext_49 (by decide) ?_
      refine xr_irem cx dX9_panelForNext_51 (by decide) ?_
      rw [show nI (u + i) - nI (u + i) / 6 * 6 = nI ((u + i) % 6) from pk_rem (d := 6) (by omega) (by decide) (by decide)]
      refine xr_istore_3 cx dX9_panelForNext_52 ?_
      refine xr_aload_0 cx dX9_panelForNext_53 ?_
      refine xr_iload_3 cx dX9_panelForNext_54 ?_
      refine xr_V1i (ν := mX9_isPinned) cx dX9_panelForNext_55 rfl ml_X9_49 vf_X9_isPinned g0 (Nat.le_of_ble_eq_true rfl) (m_X9_isPinned hG (show (u + i) % 6 < 32 by omega) ?_)
      refine xr_if_ne (tgt := 63) cx dX9_panelForNext_58 (by decide) (fun cq58 => ?_) (fun cq58 => ?_)
      · have hb : bt (a 7) ((u + i) % 6) = true := by cases hq : bt (a 7) ((u + i) % 6) with | true => rfl | false => rw [hq] at cq58; exact absurd rfl cq58
        rw [xfst, if_neg (by show ¬ (!mPin a ((u + i) % 6)) = true; unfold mPin; rw [hb]; decide)] at h
        refine xr_iinc_2 (y := 1) cx dX9_panelForNext_63 (by decide) ?_
        refine xr_goto (tgt := 40) cx dX9_panelForNext_66 (by decide) ?_
        rw [nI_1]
        exact ih (i + 1) _ (by omega) h
      · have hb : bt (a 7) ((u + i) % 6) = false := by cases hq : bt (a 7) ((u + i) % 6) with | false => rfl | true => rw [hq] at cq58; exact absurd cq58 (by decide)
        rw [xfst, if_pos (by show (!mPin a ((u + i) % 6)) = true; unfold mPin; rw [hb]; rfl)] at h
        refine xr_iload_3 cx dX9_panelForNext_61 ?_
        refine xr_iret cx cz dX9_panelForNext_62 rfl ?_
        exact h
theorem m_X9_panelForNext {l : Launch} {E : XEnv} {d : Nat} {σ : XSt} {a : Nat → Int32} {Q : Int32 → XSt → Prop} (hG : xGl E) (hI : xIx a)  (h : Q (pnn (mNext a)) (su σ 1 a)) : XMi l E (d + 1) mX9_panelForNext [.ref (xad E 0)] (su σ 1 a) Q := by
  have g0 := hG.1
  have g1 := hG.2.1
  have g2 := hG.2.2.1
  have g3 := hG.2.2.2.1
  have g4 := hG.2.2.2.2.1
  have g5 := hG.2.2.2.2.2.1
  have g6 := hG.2.2.2.2.2.2.1
  have g7 := hG.2.2.2.2.2.2.2.1
  obtain ⟨ix1, ix2, ix3, ix4, iy1, iy2, iy3, iy4⟩ := id hI
  refine xr_entry (lv := [some (.ref (xad E 0)), none, none, none]) (by decide +kernel) (by simp [Value.category]) (Nat.le_of_ble_eq_true rfl) rfl (fun w hw cx cz => ?_)
  subst hw
  refine xr_aload_0 cx dX9_panelForNext_0 ?_
  refine xr_getR cx dX9_panelForNext_1 fl_X9_7 g0 rfl ?_
  refine xr_iconst (v := 3) cx dX9_panelForNext_4 (by decide) ?_
  refine xr_ialdN (j := 3) cx dX9_panelForNext_5 g1 rfl (by decide) (by decide) ?_
  rw [su_same]
  rw [ix3]
  refine xr_istore_1 cx dX9_panelForNext_6 ?_
  refine xr_aload_0 cx dX9_panelForNext_7 ?_
  refine xr_iload_1 cx dX9_panelForNext_8 ?_
  refine xr_V1i (ν := mX9_linesOn) cx dX9_panelForNext_9 rfl ml_X9_45 vf_X9_linesOn g0 (Nat.le_of_ble_eq_true rfl) (m_X9_linesOn hG iy3 hI ?_)
  refine xr_aload_0 cx dX9_panelForNext_12 ?_
  refine xr_getR cx dX9_panelForNext_13 fl_X9_7 g0 rfl ?_
  refine xr_bipush (v := 109) cx dX9_panelForNext_16 (by decide) ?_
  refine xr_aload_0 cx dX9_panelForNext_18 ?_
  refine xr_getR cx dX9_panelForNext_19 fl_X9_7 g0 rfl ?_
  refine xr_iconst (v := 2) cx dX9_panelForNext_22 (by decide) ?_
  refine xr_ialdN (j := 2) cx dX9_panelForNext_23 g1 rfl (by decide) (by decide) ?_
  rw [su_same]
  rw [ix2]
  refine xr_iadd cx dX9_panelForNext_24 ?_
  refine xr_ialdN (j := 109 + mWr a) cx dX9_panelForNext_25 g1 (nI_add 109 _) (by omega) (by decide) ?_
  rw [su_same]
  refine xr_iadd cx dX9_panelForNext_26 ?_
  refine xr_aload_0 cx dX9_panelForNext_27 ?_
  refine xr_getR cx dX9_panelForNext_28 fl_X9_7 g0 rfl ?_
  refine xr_iconst (v := 0) cx dX9_panelForNext_31 (by decide) ?_
  refine xr_ialdN (j := 0) cx dX9_panelForNext_32 g1 rfl (by decide) (by decide) ?_
  rw [su_same]
  refine xr_icmp_gt (tgt := 38) cx dX9_panelForNext_33 (by decide) (fun cq33 => ?_) (fun cq33 => ?_)
  · refine xr_iconst (v := 1) cx dX9_panelForNext_38 (by decide) ?_
    refine xr_istore_2 cx dX9_panelForNext_39 ?_
    unfold mNext at h
    rw [if_neg (fun q => Int32.not_le.mpr cq33 q)] at h
    exact lp_X9_panelForNext iy3 hG cx cz 5 1 none rfl h
  · refine xr_iload_1 cx dX9_panelForNext_36 ?_
    unfold mNext at h
    rw [if_pos (Int32.not_lt.mp cq33)] at h
    refine xr_iret cx cz dX9_panelForNext_37 rfl ?_
    exact h
theorem m_X9_looksAt_n {l : Launch} {E : XEnv} {d : Nat} {σ : XSt} {a : Nat → Int32} {Q : XSt → Prop} (hG : xGl E) {s : Nat} (hs : s < 30) (hI : xIx a) (hp : mPan a s = none) (h : Q (su σ 1 (mLook a s))) : XMv l E (d + 2) mX9_looksAt [.ref (xad E 0), .int (nI s)] (su σ 1 a) Q := by
  have g0 := hG.1
  have g1 := hG.2.1
  have g2 := hG.2.2.1
  have g3 := hG.2.2.2.1
  have g4 := hG.2.2.2.2.1
  have g5 := hG.2.2.2.2.2.1
  have g6 := hG.2.2.2.2.2.2.1
  have g7 := hG.2.2.2.2.2.2.2.1
  obtain ⟨ix1, ix2, ix3, ix4, iy1, iy2, iy3, iy4⟩ := id hI
  have e0 := mLook_none hp
  have hb0 : xIx (upd a (199 + s) (a (199 + s) + 1)) := xIx_e hI (upd_ne _ _ (by omega)) (upd_ne _ _ (by omega)) (upd_ne _ _ (by omega)) (upd_ne _ _ (by omega))
  have hph : mPh (upd a (199 + s) (a (199 + s) + 1)) = mPh a := mPh_upd (by omega) (by omega) iy4
  refine xr_entry (lv := [some (.ref (xad E 0)), some (.int (nI s)), none]) (by decide +kernel) (by simp [Value.category]) (Nat.le_of_ble_eq_true rfl) rfl (fun w hw cx cz => ?_)
  subst hw
  refine xr_aload_0 cx dX9_looksAt_0 ?_
  refine xr_iload_1 cx dX9_looksAt_1 ?_
  refine xr_V1i (ν := mX9_panelOf) cx dX9_looksAt_2 rfl ml_X9_53 vf_X9_panelOf g0 (Nat.le_of_ble_eq_true rfl) (m_X9_panelOf hG hs ?_)
  rw [hp]
  show XG _ _ _ _ [.int (-5)] _
  refine xr_istore_2 cx dX9_looksAt_5 ?_
  refine xr_aload_0 cx dX9_looksAt_6 ?_
  refine xr_getR cx dX9_looksAt_7 fl_X9_7 g0 rfl ?_
  refine xr_sipush (v := 199) cx dX9_looksAt_10 (by decide) ?_
  refine xr_iload_1 cx dX9_looksAt_13 ?_
  refine xr_iadd cx dX9_looksAt_14 ?_
  refine xr_dup2 cx dX9_looksAt_15 rfl rfl ?_
  refine xr_ialdN (j := 199 + s) cx dX9_looksAt_16 g1 (nI_add 199 s) (by omega) (by decide) ?_
  rw [su_same]
  refine xr_iconst (v := 1) cx dX9_looksAt_17 (by decide) ?_
  refine xr_iadd cx dX9_looksAt_18 ?_
  refine xr_iastN (j := 199 + s) cx dX9_looksAt_19 g1 (nI_add 199 s) (by omega) (by decide) ?_
  rw [su_same, su_su]
  refine xr_iload_2 cx dX9_looksAt_20 ?_
  refine xr_bipush (v := -5) cx dX9_looksAt_21 (by decide) ?_
  refine xr_icmp_ne (tgt := 53) cx dX9_looksAt_23 (by decide) (fun cq23 => ?_) (fun cq23 => ?_)
  · exact absurd rfl cq23
  · refine xr_aload_0 cx dX9_looksAt_26 ?_
    refine xr_getR cx dX9_looksAt_27 fl_X9_7 g0 rfl ?_
    refine xr_aload_0 cx dX9_looksAt_30 ?_
    refine xr_iload_1 cx dX9_looksAt_31 ?_
    refine xr_V1i (ν := mX9_isOnPhoto) cx dX9_looksAt_32 rfl ml_X9_56 vf_X9_isOnPhoto g0 (Nat.le_of_ble_eq_true rfl) (m_X9_isOnPhoto hG hs hb0 ?_)
    rw [hph]
    refine xr_if_eq (tgt := 43) cx dX9_looksAt_35 (by decide) (fun cq35 => ?_) (fun cq35 => ?_)
    · rw [if_neg (fun q => by rw [if_pos q] at cq35; exact absurd cq35 (by decide))] at e0
      refine xr_bipush (v := 13) cx dX9_looksAt_43 (by decide) ?_
      refine xr_dup2 cx dX9_looksAt_45 rfl rfl ?_
      refine xr_ialdN (j := 13) cx dX9_looksAt_46 g1 rfl (by decide) (by decide) ?_
      rw [su_same]
      refine xr_iconst (v := 1) cx dX9_looksAt_47 (by decide) ?_
      refine xr_iadd cx dX9_looksAt_48 ?_
      refine xr_iastN (j := 13) cx dX9_looksAt_49 g1 rfl (by decide) (by decide) ?_
      rw [su_same, su_su]
      refine xr_goto (tgt := 96) cx dX9_looksAt_50 (by decide) ?_
      refine xr_vret cx cz dX9_looksAt_96 rfl ?_
      exact q_s h (by rw [e0])
    · rw [if_pos (by by_cases q : bt (mPh a) s = true; exact q; rw [if_neg q] at cq35; exact absurd rfl cq35)] at e0
      refine xr_bipush (v := 12) cx dX9_looksAt_38 (by decide) ?_
      refine xr_goto (tgt := 45) cx dX9_looksAt_40 (by decide) ?_
      refine xr_dup2 cx dX9_looksAt_45 rfl rfl ?_
      refine xr_ialdN (j := 12) cx dX9_looksAt_46 g1 rfl (by decide) (by decide) ?_
      rw [su_same]
      refine xr_iconst (v := 1) cx dX9_looksAt_47 (by decide) ?_
      refine xr_iadd cx dX9_looksAt_48 ?_
      refine xr_iastN (j := 12) cx dX9_looksAt_49 g1 rfl (by decide) (by decide) ?_
      rw [su_same, su_su]
      refine xr_goto (tgt := 96) cx dX9_looksAt_50 (by decide) ?_
      refine xr_vret cx cz dX9_looksAt_96 rfl ?_
      exact q_s h (by rw [e0])
theorem nI_nm5 {p : Nat} (h : p < 2 ^ 31) : ¬ nI p = -5 := by
  intro q
  have h1 := nI_pos h
  rw [q] at h1
  exact h1 (by decide)
theorem m_X9_looksAt_s {l : Launch} {E : XEnv} {d : Nat} {σ : XSt} {a : Nat → Int32} {Q : XSt → Prop} (hG : xGl E) {s p : Nat} (hs : s < 30) (hI : xIx a) (hp : mPan a s = some p) (h : Q (su σ 1 (mLook a s))) : XMv l E (d + 2) mX9_looksAt [.ref (xad E 0), .int (nI s)] (su σ 1 a) Q := by
  have g0 := hG.1
  have g1 := hG.2.1
  have g2 := hG.2.2.1
  have g3 := hG.2.2.2.1
  have g4 := hG.2.2.2.2.1
  have g5 := hG.2.2.2.2.2.1
  have g6 := hG.2.2.2.2.2.2.1
  have g7 := hG.2.2.2.2.2.2.2.1
  obtain ⟨ix1, ix2, ix3, ix4, iy1, iy2, iy3, iy4⟩ := id hI
  have e0 := mLook_some hp
  have hp6 := mPan_lt hp
  have hfr : mFront (upd a (199 + s) (a (199 + s) + 1)) p = mFront a p := by unfold mFront; rw [upd_ne _ _ (by omega)]
  have hb0 : xIx (upd a (199 + s) (a (199 + s) + 1)) := xIx_e hI (upd_ne _ _ (by omega)) (upd_ne _ _ (by omega)) (upd_ne _ _ (by omega)) (upd_ne _ _ (by omega))
  have hph : mPh (upd a (199 + s) (a (199 + s) + 1)) = mPh a := mPh_upd (by omega) (by omega) iy4
  refine xr_entry (lv := [some (.ref (xad E 0)), some (.int (nI s)), none]) (by decide +kernel) (by simp [Value.category]) (Nat.le_of_ble_eq_true rfl) rfl (fun w hw cx cz => ?_)
  subst hw
  refine xr_aload_0 cx dX9_looksAt_0 ?_
  refine xr_iload_1 cx dX9_looksAt_1 ?_
  refine xr_V1i (ν := mX9_panelOf) cx dX9_looksAt_2 rfl ml_X9_53 vf_X9_panelOf g0 (Nat.le_of_ble_eq_true rfl) (m_X9_panelOf hG hs ?_)
  rw [hp]
  show XG _ _ _ _ [.int (nI p)] _
  refine xr_istore_2 cx dX9_looksAt_5 ?_
  refine xr_aload_0 cx dX9_looksAt_6 ?_
  refine xr_getR cx dX9_looksAt_7 fl_X9_7 g0 rfl ?_
  refine xr_sipush (v := 199) cx dX9_looksAt_10 (by decide) ?_
  refine xr_iload_1 cx dX9_looksAt_13 ?_
  refine xr_iadd cx dX9_looksAt_14 ?_
  refine xr_dup2 cx dX9_looksAt_15 rfl rfl ?_
  refine xr_ialdN (j := 199 + s) cx dX9_looksAt_16 g1 (nI_add 199 s) (by omega) (by decide) ?_
  rw [su_same]
  refine xr_iconst (v := 1) cx dX9_looksAt_17 (by decide) ?_
  refine xr_iadd cx dX9_looksAt_18 ?_
  refine xr_iastN (j := 199 + s) cx dX9_looksAt_19 g1 (nI_add 199 s) (by omega) (by decide) ?_
  rw [su_same, su_su]
  refine xr_iload_2 cx dX9_looksAt_20 ?_
  refine xr_bipush (v := -5) cx dX9_looksAt_21 (by decide) ?_
  refine xr_icmp_ne (tgt := 53) cx dX9_looksAt_23 (by decide) (fun cq23 => ?_) (fun cq23 => ?_)
  · refine xr_aload_0 cx dX9_looksAt_53 ?_
    refine xr_iload_2 cx dX9_looksAt_54 ?_
    refine xr_V1i (ν := mX9_isFront) cx dX9_looksAt_55 rfl ml_X9_59 vf_X9_isFront g0 (Nat.le_of_ble_eq_true rfl) (m_X9_isFront hG hp6 ?_)
    rw [hfr]
    refine xr_if_ne (tgt := 96) cx dX9_looksAt_58 (by decide) (fun cq58 => ?_) (fun cq58 => ?_)
    · rw [if_pos (by by_cases q : mFront a p = true; exact q; rw [if_neg q] at cq58; exact absurd rfl cq58)] at e0
      refine xr_vret cx cz dX9_looksAt_96 rfl ?_
      exact q_s h (by rw [e0])
    · rw [if_neg (fun q => by rw [if_pos q] at cq58; exact absurd cq58 (by decide))] at e0
      refine xr_iload_2 cx dX9_looksAt_61 ?_
      refine xr_iconst (v := 2) cx dX9_looksAt_62 (by decide) ?_
      refine xr_idiv cx dX9_looksAt_63 (by decide) ?_
      rw [x_d2 (by omega)]
      refine xr_aload_0 cx dX9_looksAt_64 ?_
      refine xr_getR cx dX9_looksAt_65 fl_X9_7 g0 rfl ?_
      refine xr_iconst (v := 3) cx dX9_looksAt_68 (by decide) ?_
      refine xr_ialdN (j := 3) cx dX9_looksAt_69 g1 rfl (by decide) (by decide) ?_
      rw [su_same]
      rw [upd_ne _ _ (by omega), ix3]
      refine xr_iconst (v := 2) cx dX9_looksAt_70 (by decide) ?_
      refine xr_idiv cx dX9_looksAt_71 (by decide) ?_
      rw [x_d2 (by omega)]
      refine xr_icmp_ne (tgt := 89) cx dX9_looksAt_72 (by decide) (fun cq72 => ?_) (fun cq72 => ?_)
      · rw [if_neg (fun q => cq72 (by rw [q]))] at e0
        refine xr_aload_0 cx dX9_looksAt_89 ?_
        refine xr_iload_2 cx dX9_looksAt_90 ?_
        refine xr_iconst (v := 2) cx dX9_looksAt_91 (by decide) ?_
        refine xr_idiv cx dX9_looksAt_92 (by decide) ?_
        rw [x_d2 (by omega)]
        refine xr_V1v (ν := mX9_pulls) cx dX9_looksAt_93 rfl ml_X9_62 vf_X9_pulls g0 (Nat.le_of_ble_eq_true rfl) (m_X9_pulls hG (show p / 2 < 3 by omega) ?_)
        refine xr_vret cx cz dX9_looksAt_96 rfl ?_
        exact q_s h (by rw [e0])
      · rw [if_pos (nI_inj (by omega) (by omega) cq72)] at e0
        refine xr_aload_0 cx dX9_looksAt_75 ?_
        refine xr_getR cx dX9_looksAt_76 fl_X9_7 g0 rfl ?_
        refine xr_bipush (v := 11) cx dX9_looksAt_79 (by decide) ?_
        refine xr_dup2 cx dX9_looksAt_81 rfl rfl ?_
        refine xr_ialdN (j := 11) cx dX9_looksAt_82 g1 rfl (by decide) (by decide) ?_
        rw [su_same]
        refine xr_iconst (v := 1) cx dX9_looksAt_83 (by decide) ?_
        refine xr_iadd cx dX9_looksAt_84 ?_
        refine xr_iastN (j := 11) cx dX9_looksAt_85 g1 rfl (by decide) (by decide) ?_
        rw [su_same, su_su]
        refine xr_goto (tgt := 96) cx dX9_looksAt_86 (by decide) ?_
        refine xr_vret cx cz dX9_looksAt_96 rfl ?_
        exact q_s h (by rw [e0])
  · exact absurd cq23 (nI_nm5 (by omega))
theorem m_X9_looksAt {l : Launch} {E : XEnv} {d : Nat} {σ : XSt} {a : Nat → Int32} {Q : XSt → Prop} (hG : xGl E) {s : Nat} (hs : s < 30) (hI : xIx a) (h : Q (su σ 1 (mLook a s))) : XMv l E (d + 2) mX9_looksAt [.ref (xad E 0), .int (nI s)] (su σ 1 a) Q := by
  cases hp : mPan a s with
  | none => exact m_X9_looksAt_n hG hs hI hp h
  | some p => exact m_X9_looksAt_s hG hs hI hp h
theorem lN_m1 : ∀ n, n ≤ 30 → (lN n - 1).toInt = (n : Int) - 1 := by
  have : ∀ n, n < 31 → (lN n - 1).toInt = (n : Int) - 1 := by decide +kernel
  exact fun n h => this n (by omega)
theorem x64_step {x : Int32} {n : Nat} (hn : n ≤ 30) : (x.toInt64 < 0 ∨ (nI n).toInt64 - 1 < x.toInt64) ↔ (x < 0 ∨ nI n ≤ x) := by
  have h0 : x.toInt64 < 0 ↔ x < 0 := x64_lt (y := 0)
  rw [h0, nI_l (by omega), Int64.lt_iff_toInt_lt, lN_m1 n hn, Int32.toInt_toInt64, Int32.le_iff_toInt_le, nI_toInt (by omega)]
  constructor
  · rintro (q | q)
    · exact Or.inl q
    · exact Or.inr (by omega)
  · rintro (q | q)
    · exact Or.inl q
    · exact Or.inr (by omega)
theorem m_X9_isStep {l : Launch} {E : XEnv} {d : Nat} {σ : XSt} {a : Nat → Int32} {Q : Int32 → XSt → Prop} (hG : xGl E) {x : Int32} (hI : xIx a)  (h : Q (if x < 0 ∨ a 1 ≤ x then 0 else 1) (su σ 1 a)) : XMi l E (d + 1) mX9_isStep [.ref (xad E 0), .int x] (su σ 1 a) Q := by
  have g0 := hG.1
  have g1 := hG.2.1
  have g2 := hG.2.2.1
  have g3 := hG.2.2.2.1
  have g4 := hG.2.2.2.2.1
  have g5 := hG.2.2.2.2.2.1
  have g6 := hG.2.2.2.2.2.2.1
  have g7 := hG.2.2.2.2.2.2.2.1
  obtain ⟨ix1, ix2, ix3, ix4, iy1, iy2, iy3, iy4⟩ := id hI
  refine xr_entry (lv := [some (.ref (xad E 0)), some (.int x)]) (by decide +kernel) (by simp [Value.category]) (Nat.le_of_ble_eq_true rfl) rfl (fun w hw cx cz => ?_)
  subst hw
  refine xr_iload_1 cx dX9_isStep_0 ?_
  refine xr_i2l cx dX9_isStep_1 ?_
  refine xr_lconst (v := 0) cx dX9_isStep_2 (by decide) ?_
  refine xr_aload_0 cx dX9_isStep_3 ?_
  refine xr_getR cx dX9_isStep_4 fl_X9_7 g0 rfl ?_
  refine xr_iconst (v := 1) cx dX9_isStep_7 (by decide) ?_
  refine xr_ialdN (j := 1) cx dX9_isStep_8 g1 rfl (by decide) (by decide) ?_
  rw [su_same]
  rw [ix1]
  refine xr_i2l cx dX9_isStep_9 ?_
  refine xr_lconst (v := 1) cx dX9_isStep_10 (by decide) ?_
  refine xr_lsub cx dX9_isStep_11 ?_
  refine xr_S3i (ν := mX9_in) cx dX9_isStep_12 rfl ml_X9_37 sf_X9_in (Nat.le_of_ble_eq_true rfl) (m_X9_in ?_)
  refine xr_zret cx cz dX9_isStep_15 rfl (by split <;> rfl) ?_
  refine q_i h ?_
  rw [ix1]
  simp only [x64_step iy2]
theorem lp_X9_writes {E : XEnv} {d v : Nat} {σ : XSt} {Q : Int32 → XSt → Prop} {w : XO} {pv : Option Value} (hv : v ≤ 30) (hG : xGl E) (cx : CX (d + 3) w E mX9_writes) (cz : CZi w E Q) : ∀ n i (a : Nat → Int32), i + n = v → xIx a → Q 1 (su σ 1 (xit (fun s x => if bt (x (139 + v)) s = true then mLook x s else x) n i a)) → XG w E 101 [some (.ref (xad E 0)), pv, some (.int (nI v)), some (.int (nI i))] [] (su σ 1 a) := by
  have g0 := hG.1
  have g1 := hG.2.1
  have g2 := hG.2.2.1
  have g3 := hG.2.2.2.1
  have g4 := hG.2.2.2.2.1
  have g5 := hG.2.2.2.2.2.1
  have g6 := hG.2.2.2.2.2.2.1
  have g7 := hG.2.2.2.2.2.2.2.1
  intro n
  induction n with
  | zero =>
    intro i a hi hI h
    refine xr_iload_3 cx dX9_writes_101 ?_
    refine xr_iload_2 cx dX9_writes_102 ?_
    refine xr_icmp_ge (tgt := 135) cx dX9_writes_103 (by decide) (fun cq103 => ?_) (fun cq103 => ?_)
    · refine xr_iconst (v := 1) cx dX9_writes_135 (by decide) ?_
      refine xr_zret cx cz dX9_writes_136 rfl rfl ?_
      exact h
    · exact absurd (nI_le (a := v) (b := i) (by omega) (by omega)) cq103
  | succ n ih =>
    intro i a hi hI h
    refine xr_iload_3 cx dX9_writes_101 ?_
    refine xr_iload_2 cx dX9_writes_102 ?_
    refine xr_icmp_ge (tgt := 135) cx dX9_writes_103 (by decide) (fun cq103 => ?_) (fun cq103 => ?_)
    · exact absurd cq103 (nI_ge (a := i) (b := v) (by omega) (by omega))
    · refine xr_aload_0 cx dX9_writes_106 ?_
      refine xr_getR cx dX9_writes_107 fl_X9_7 g0 rfl ?_
      refine xr_sipush (v := 139) cx dX9_writes_110 (by decide) ?_
      refine xr_iload_2 cx dX9_writes_113 ?_
      refine xr_iadd cx dX9_writes_114 ?_
      refine xr_ialdN (j := 139 + v) cx dX9_writes_115 g1 (nI_add 139 v) (by omega) (by decide) ?_
      rw [su_same]
      refine xr_iload_3 cx dX9_writes_116 ?_
      refine xr_ishr cx dX9_writes_117 ?_
      refine xr_iconst (v := 1) cx dX9_writes_118 (by decide) ?_
      refine xr_iand cx dX9_writes_119 ?_
      refine xr_iconst (v := 1) cx dX9_writes_120 (by decide) ?_
      refine xr_icmp_ne (tgt := 129) cx dX9_writes_121 (by decide) (fun cq121 => ?_) (fun cq121 => ?_)
      · rw [xit_succ, if_neg (fun q => cq121 ((b_shr1T (by omega)).mpr q))] at h
        refine xr_iinc_3 (y := 1) cx dX9_writes_129 (by decide) ?_
        refine xr_goto (tgt := 101) cx dX9_writes_132 (by decide) ?_
        rw [nI_1]
        first | exact ih (i + 1) _ (by omega) hI h | exact ih (i + 1) _ (by omega) (mLook_ix hI) h
      · rw [xit_succ, if_pos ((b_shr1T (by omega)).mp cq121)] at h
        refine xr_aload_0 cx dX9_writes_124 ?_
        refine xr_iload_3 cx dX9_writes_125 ?_
        refine xr_V1v (ν := mX9_looksAt) cx dX9_writes_126 rfl ml_X9_72 vf_X9_looksAt g0 (Nat.le_of_ble_eq_true rfl) (m_X9_looksAt hG (show i < 30 by omega) hI ?_)
        refine xr_iinc_3 (y := 1) cx dX9_writes_129 (by decide) ?_
        refine xr_goto (tgt := 101) cx dX9_writes_132 (by decide) ?_
        rw [nI_1]
        first | exact ih (i + 1) _ (by omega) hI h | exact ih (i + 1) _ (by omega) (mLook_ix hI) h
theorem m_X9_writes_n {l : Launch} {E : XEnv} {d : Nat} {σ : XSt} {a : Nat → Int32} {Q : Int32 → XSt → Prop} (hG : xGl E) (hI : xIx a) (hg : mGo a = none) (h : Q 0 (su σ 1 a)) : XMi l E (d + 3) mX9_writes [.ref (xad E 0)] (su σ 1 a) Q := by
  have g0 := hG.1
  have g1 := hG.2.1
  have g2 := hG.2.2.1
  have g3 := hG.2.2.2.1
  have g4 := hG.2.2.2.2.1
  have g5 := hG.2.2.2.2.2.1
  have g6 := hG.2.2.2.2.2.2.1
  have g7 := hG.2.2.2.2.2.2.2.1
  obtain ⟨ix1, ix2, ix3, ix4, iy1, iy2, iy3, iy4⟩ := id hI
  refine xr_entry (lv := [some (.ref (xad E 0)), none, none, none]) (by decide +kernel) (by simp [Value.category]) (Nat.le_of_ble_eq_true rfl) rfl (fun w hw cx cz => ?_)
  subst hw
  refine xr_aload_0 cx dX9_writes_0 ?_
  refine xr_getR cx dX9_writes_1 fl_X9_7 g0 rfl ?_
  refine xr_iconst (v := 2) cx dX9_writes_4 (by decide) ?_
  refine xr_ialdN (j := 2) cx dX9_writes_5 g1 rfl (by decide) (by decide) ?_
  rw [su_same]
  rw [ix2]
  refine xr_aload_0 cx dX9_writes_6 ?_
  refine xr_getR cx dX9_writes_7 fl_X9_7 g0 rfl ?_
  refine xr_iconst (v := 1) cx dX9_writes_10 (by decide) ?_
  refine xr_ialdN (j := 1) cx dX9_writes_11 g1 rfl (by decide) (by decide) ?_
  rw [su_same]
  rw [ix1]
  refine xr_icmp_ne (tgt := 17) cx dX9_writes_12 (by decide) (fun cq12 => ?_) (fun cq12 => ?_)
  · have hlt : mWr a < mSt a := by
      have : mWr a ≠ mSt a := fun q => cq12 (by rw [q])
      omega
    have hn : mNext a = none := by unfold mGo at hg; rw [if_pos hlt] at hg; exact hg
    refine xr_aload_0 cx dX9_writes_17 ?_
    refine xr_V0i (ν := mX9_panelForNext) cx dX9_writes_18 rfl ml_X9_66 vf_X9_panelForNext g0 (Nat.le_of_ble_eq_true rfl) (m_X9_panelForNext hG hI ?_)
    rw [hn]
    show XG _ _ _ _ [.int (-5)] _
    refine xr_istore_1 cx dX9_writes_21 ?_
    refine xr_iload_1 cx dX9_writes_22 ?_
    refine xr_bipush (v := -5) cx dX9_writes_23 (by decide) ?_
    refine xr_icmp_ne (tgt := 30) cx dX9_writes_25 (by decide) (fun cq25 => ?_) (fun cq25 => ?_)
    · exact absurd rfl cq25
    · refine xr_iconst (v := 0) cx dX9_writes_28 (by decide) ?_
      refine xr_zret cx cz dX9_writes_29 rfl rfl ?_
      exact h
  · refine xr_iconst (v := 0) cx dX9_writes_15 (by decide) ?_
    refine xr_zret cx cz dX9_writes_16 rfl rfl ?_
    exact h
theorem m_X9_writes_s {l : Launch} {E : XEnv} {d : Nat} {σ : XSt} {a : Nat → Int32} {Q : Int32 → XSt → Prop} (hG : xGl E) {p : Nat} (hI : xIx a) (hg : mGo a = some p) (h : Q 1 (su σ 1 (mWrite a p))) : XMi l E (d + 3) mX9_writes [.ref (xad E 0)] (su σ 1 a) Q := by
  have g0 := hG.1
  have g1 := hG.2.1
  have g2 := hG.2.2.1
  have g3 := hG.2.2.2.1
  have g4 := hG.2.2.2.2.1
  have g5 := hG.2.2.2.2.2.1
  have g6 := hG.2.2.2.2.2.2.1
  have g7 := hG.2.2.2.2.2.2.2.1
  obtain ⟨ix1, ix2, ix3, ix4, iy1, iy2, iy3, iy4⟩ := id hI
  obtain ⟨hw, hnx⟩ := mGo_some hg
  have hp6 := mNext_lt hnx iy3
  have hu2 : mWr (mBring (mUse a p) p) = mWr a := (mBring_wr hp6).trans (mUse_wr hp6)
  have hv2 : mBring (mUse a p) p 2 = nI (mWr a) := by rw [mBring_fp hp6 (by decide), mUse_fp (by omega) (by omega) (by decide) (by decide)]; exact ix2
  have hi2 : xIx (mBear (mBring (mUse a p) p) p) := (xIx_mk (n := mSt a) (w := mWr a + 1) (u := p) (t := mTk a) (by rw [mBear_fp (by omega) (by decide), mBring_fp hp6 (by decide), mUse_fp (by omega) (by omega) (by decide) (by decide)]; exact ix1) (by rw [mBear_2, hv2, nI_1]) (by rw [mBear_fp (by omega) (by decide), mBring_fp hp6 (by decide), mUse_3 ix3]) (by rw [mBear_fp (by omega) (by decide), mBring_fp hp6 (by decide), mUse_fp (by omega) (by omega) (by decide) (by decide)]; exact ix4) hw iy2 hp6 iy4).1
  refine xr_entry (lv := [some (.ref (xad E 0)), none, none, none]) (by decide +kernel) (by simp [Value.category]) (Nat.le_of_ble_eq_true rfl) rfl (fun w hw cx cz => ?_)
  subst hw
  refine xr_aload_0 cx dX9_writes_0 ?_
  refine xr_getR cx dX9_writes_1 fl_X9_7 g0 rfl ?_
  refine xr_iconst (v := 2) cx dX9_writes_4 (by decide) ?_
  refine xr_ialdN (j := 2) cx dX9_writes_5 g1 rfl (by decide) (by decide) ?_
  rw [su_same]
  rw [ix2]
  refine xr_aload_0 cx dX9_writes_6 ?_
  refine xr_getR cx dX9_writes_7 fl_X9_7 g0 rfl ?_
  refine xr_iconst (v := 1) cx dX9_writes_10 (by decide) ?_
  refine xr_ialdN (j := 1) cx dX9_writes_11 g1 rfl (by decide) (by decide) ?_
  rw [su_same]
  rw [ix1]
  refine xr_icmp_ne (tgt := 17) cx dX9_writes_12 (by decide) (fun cq12 => ?_) (fun cq12 => ?_)
  · refine xr_aload_0 cx dX9_writes_17 ?_
    refine xr_V0i (ν := mX9_panelForNext) cx dX9_writes_18 rfl ml_X9_66 vf_X9_panelForNext g0 (Nat.le_of_ble_eq_true rfl) (m_X9_panelForNext hG hI ?_)
    rw [hnx]
    show XG _ _ _ _ [.int (nI p)] _
    refine xr_istore_1 cx dX9_writes_21 ?_
    refine xr_iload_1 cx dX9_writes_22 ?_
    refine xr_bipush (v := -5) cx dX9_writes_23 (by decide) ?_
    refine xr_icmp_ne (tgt := 30) cx dX9_writes_25 (by decide) (fun cq25 => ?_) (fun cq25 => ?_)
    · refine xr_iload_1 cx dX9_writes_30 ?_
      refine xr_aload_0 cx dX9_writes_31 ?_
      refine xr_getR cx dX9_writes_32 fl_X9_7 g0 rfl ?_
      refine xr_iconst (v := 3) cx dX9_writes_35 (by decide) ?_
      refine xr_ialdN (j := 3) cx dX9_writes_36 g1 rfl (by decide) (by decide) ?_
      rw [su_same]
      rw [ix3]
      refine xr_icmp_eq (tgt := 52) cx dX9_writes_37 (by decide) (fun cq37 => ?_) (fun cq37 => ?_)
      · have hpu : p = mUs a := nI_inj (by omega) (by omega) cq37
        rw [show su σ 1 a = su σ 1 (mUse a p) by rw [show mUse a p = a from if_pos hpu]]
        refine xr_aload_0 cx dX9_writes_52 ?_
        refine xr_iload_1 cx dX9_writes_53 ?_
        refine xr_V1i (ν := mX9_isFront) cx dX9_writes_54 rfl ml_X9_59 vf_X9_isFront g0 (Nat.le_of_ble_eq_true rfl) (m_X9_isFront hG hp6 ?_)
        refine xr_if_ne (tgt := 67) cx dX9_writes_57 (by decide) (fun cq57 => ?_) (fun cq57 => ?_)
        · rw [show su σ 1 (mUse a p) = su σ 1 (mBring (mUse a p) p) by rw [show mBring (mUse a p) p = mUse a p from if_pos (by by_cases q : mFront (mUse a p) p = true; exact q; rw [if_neg q] at cq57; exact absurd rfl cq57)]]
          refine xr_aload_0 cx dX9_writes_67 ?_
          refine xr_getR cx dX9_writes_68 fl_X9_7 g0 rfl ?_
          refine xr_iconst (v := 2) cx dX9_writes_71 (by decide) ?_
          refine xr_ialdN (j := 2) cx dX9_writes_72 g1 rfl (by decide) (by decide) ?_
          rw [su_same]
          rw [hv2]
          refine xr_istore_2 cx dX9_writes_73 ?_
          refine xr_aload_0 cx dX9_writes_74 ?_
          refine xr_getR cx dX9_writes_75 fl_X9_7 g0 rfl ?_
          refine xr_bipush (v := 17) cx dX9_writes_78 (by decide) ?_
          refine xr_iload_1 cx dX9_writes_80 ?_
          refine xr_iadd cx dX9_writes_81 ?_
          refine xr_dup2 cx dX9_writes_82 rfl rfl ?_
          refine xr_ialdN (j := 17 + p) cx dX9_writes_83 g1 (nI_add 17 p) (by omega) (by decide) ?_
          rw [su_same]
          refine xr_iconst (v := 1) cx dX9_writes_84 (by decide) ?_
          refine xr_iload_2 cx dX9_writes_85 ?_
          refine xr_ishl cx dX9_writes_86 ?_
          refine xr_ior cx dX9_writes_87 ?_
          refine xr_iastN (j := 17 + p) cx dX9_writes_88 g1 (nI_add 17 p) (by omega) (by decide) ?_
          rw [su_same, su_su]
          
          refine xr_aload_0 cx dX9_writes_89 ?_
          refine xr_getR cx dX9_writes_90 fl_X9_7 g0 rfl ?_
          refine xr_iconst (v := 2) cx dX9_writes_93 (by decide) ?_
          refine xr_dup2 cx dX9_writes_94 rfl rfl ?_
          refine xr_ialdN (j := 2) cx dX9_writes_95 g1 rfl (by decide) (by decide) ?_
          rw [su_same]
          rw [upd_ne _ _ (by omega)]
          refine xr_iconst (v := 1) cx dX9_writes_96 (by decide) ?_
          refine xr_iadd cx dX9_writes_97 ?_
          refine xr_iastN (j := 2) cx dX9_writes_98 g1 rfl (by decide) (by decide) ?_
          rw [su_same, su_su]
          rw [show upd (upd (mBring (mUse a p) p) (17 + p) ((mBring (mUse a p) p) (17 + p) ||| (1 : Int32) <<< (nI (mWr a) &&& 31))) 2 ((mBring (mUse a p) p) 2 + 1) = mBear (mBring (mUse a p) p) p by unfold mBear xbit; rw [hu2]]
          refine xr_iconst (v := 0) cx dX9_writes_99 (by decide) ?_
          refine xr_istore_3 cx dX9_writes_100 ?_
          exact lp_X9_writes (by omega) hG cx cz (mWr a) 0 _ (by omega) hi2 h
        · have hnf : ¬ mFront (mUse a p) p = true := fun q => by rw [if_pos q] at cq57; exact absurd cq57 (by decide)
          refine xr_aload_0 cx dX9_writes_60 ?_
          refine xr_iload_1 cx dX9_writes_61 ?_
          refine xr_iconst (v := 2) cx dX9_writes_62 (by decide) ?_
          refine xr_idiv cx dX9_writes_63 (by decide) ?_
          rw [x_d2 (by omega)]
          refine xr_V1v (ν := mX9_pulls) cx dX9_writes_64 rfl ml_X9_62 vf_X9_pulls g0 (Nat.le_of_ble_eq_true rfl) (m_X9_pulls hG (show p / 2 < 3 by omega) ?_)
          rw [show mPull (mUse a p) (p / 2) = mBring (mUse a p) p from (if_neg hnf).symm]
          refine xr_aload_0 cx dX9_writes_67 ?_
          refine xr_getR cx dX9_writes_68 fl_X9_7 g0 rfl ?_
          refine xr_iconst (v := 2) cx dX9_writes_71 (by decide) ?_
          refine xr_ialdN (j := 2) cx dX9_writes_72 g1 rfl (by decide) (by decide) ?_
          rw [su_same]
          rw [hv2]
          refine xr_istore_2 cx dX9_writes_73 ?_
          refine xr_aload_0 cx dX9_writes_74 ?_
          refine xr_getR cx dX9_writes_75 fl_X9_7 g0 rfl ?_
          refine xr_bipush (v := 17) cx dX9_writes_78 (by decide) ?_
          refine xr_iload_1 cx dX9_writes_80 ?_
          refine xr_iadd cx dX9_writes_81 ?_
          refine xr_dup2 cx dX9_writes_82 rfl rfl ?_
          refine xr_ialdN (j := 17 + p) cx dX9_writes_83 g1 (nI_add 17 p) (by omega) (by decide) ?_
          rw [su_same]
          refine xr_iconst (v := 1) cx dX9_writes_84 (by decide) ?_
          refine xr_iload_2 cx dX9_writes_85 ?_
          refine xr_ishl cx dX9_writes_86 ?_
          refine xr_ior cx dX9_writes_87 ?_
          refine xr_iastN (j := 17 + p) cx dX9_writes_88 g1 (nI_add 17 p) (by omega) (by decide) ?_
          rw [su_same, su_su]
          
          refine xr_aload_0 cx dX9_writes_89 ?_
          refine xr_getR cx dX9_writes_90 fl_X9_7 g0 rfl ?_
          refine xr_iconst (v := 2) cx dX9_writes_93 (by decide) ?_
          refine xr_dup2 cx dX9_writes_94 rfl rfl ?_
          refine xr_ialdN (j := 2) cx dX9_writes_95 g1 rfl (by decide) (by decide) ?_
          rw [su_same]
          rw [upd_ne _ _ (by omega)]
          refine xr_iconst (v := 1) cx dX9_writes_96 (by decide) ?_
          refine xr_iadd cx dX9_writes_97 ?_
          refine xr_iastN (j := 2) cx dX9_writes_98 g1 rfl (by decide) (by decide) ?_
          rw [su_same, su_su]
          rw [show upd (upd (mBring (mUse a p) p) (17 + p) ((mBring (mUse a p) p) (17 + p) ||| (1 : Int32) <<< (nI (mWr a) &&& 31))) 2 ((mBring (mUse a p) p) 2 + 1) = mBear (mBring (mUse a p) p) p by unfold mBear xbit; rw [hu2]]
          refine xr_iconst (v := 0) cx dX9_writes_99 (by decide) ?_
          refine xr_istore_3 cx dX9_writes_100 ?_
          exact lp_X9_writes (by omega) hG cx cz (mWr a) 0 _ (by omega) hi2 h
      · have hpu : p ≠ mUs a := fun q => cq37 (by rw [q])
        refine xr_aload_0 cx dX9_writes_40 ?_
        refine xr_iload_1 cx dX9_writes_41 ?_
        refine xr_V1v (ν := mX9_wipes) cx dX9_writes_42 rfl ml_X9_69 vf_X9_wipes g0 (Nat.le_of_ble_eq_true rfl) (m_X9_wipes hG hp6 ?_)
        refine xr_aload_0 cx dX9_writes_45 ?_
        refine xr_getR cx dX9_writes_46 fl_X9_7 g0 rfl ?_
        refine xr_iconst (v := 3) cx dX9_writes_49 (by decide) ?_
        refine xr_iload_1 cx dX9_writes_50 ?_
        refine xr_iastN (j := 3) cx dX9_writes_51 g1 rfl (by decide) (by decide) ?_
        rw [su_same, su_su]
        rw [show upd (mWipe a p) 3 (nI p) = mUse a p from (if_neg hpu).symm]
        refine xr_aload_0 cx dX9_writes_52 ?_
        refine xr_iload_1 cx dX9_writes_53 ?_
        refine xr_V1i (ν := mX9_isFront) cx dX9_writes_54 rfl ml_X9_59 vf_X9_isFront g0 (Nat.le_of_ble_eq_true rfl) (m_X9_isFront hG hp6 ?_)
        refine xr_if_ne (tgt := 67) cx dX9_writes_57 (by decide) (fun cq57 => ?_) (fun cq57 => ?_)
        · rw [show su σ 1 (mUse a p) = su σ 1 (mBring (mUse a p) p) by rw [show mBring (mUse a p) p = mUse a p from if_pos (by by_cases q : mFront (mUse a p) p = true; exact q; rw [if_neg q] at cq57; exact absurd rfl cq57)]]
          refine xr_aload_0 cx dX9_writes_67 ?_
          refine xr_getR cx dX9_writes_68 fl_X9_7 g0 rfl ?_
          refine xr_iconst (v := 2) cx dX9_writes_71 (by decide) ?_
          refine xr_ialdN (j := 2) cx dX9_writes_72 g1 rfl (by decide) (by decide) ?_
          rw [su_same]
          rw [hv2]
          refine xr_istore_2 cx dX9_writes_73 ?_
          refine xr_aload_0 cx dX9_writes_74 ?_
          refine xr_getR cx dX9_writes_75 fl_X9_7 g0 rfl ?_
          refine xr_bipush (v := 17) cx dX9_writes_78 (by decide) ?_
          refine xr_iload_1 cx dX9_writes_80 ?_
          refine xr_iadd cx dX9_writes_81 ?_
          refine xr_dup2 cx dX9_writes_82 rfl rfl ?_
          refine xr_ialdN (j := 17 + p) cx dX9_writes_83 g1 (nI_add 17 p) (by omega) (by decide) ?_
          rw [su_same]
          refine xr_iconst (v := 1) cx dX9_writes_84 (by decide) ?_
          refine xr_iload_2 cx dX9_writes_85 ?_
          refine xr_ishl cx dX9_writes_86 ?_
          refine xr_ior cx dX9_writes_87 ?_
          refine xr_iastN (j := 17 + p) cx dX9_writes_88 g1 (nI_add 17 p) (by omega) (by decide) ?_
          rw [su_same, su_su]
          
          refine xr_aload_0 cx dX9_writes_89 ?_
          refine xr_getR cx dX9_writes_90 fl_X9_7 g0 rfl ?_
          refine xr_iconst (v := 2) cx dX9_writes_93 (by decide) ?_
          refine xr_dup2 cx dX9_writes_94 rfl rfl ?_
          refine xr_ialdN (j := 2) cx dX9_writes_95 g1 rfl (by decide) (by decide) ?_
          rw [su_same]
          rw [upd_ne _ _ (by omega)]
          refine xr_iconst (v := 1) cx dX9_writes_96 (by decide) ?_
          refine xr_iadd cx dX9_writes_97 ?_
          refine xr_iastN (j := 2) cx dX9_writes_98 g1 rfl (by decide) (by decide) ?_
          rw [su_same, su_su]
          rw [show upd (upd (mBring (mUse a p) p) (17 + p) ((mBring (mUse a p) p) (17 + p) ||| (1 : Int32) <<< (nI (mWr a) &&& 31))) 2 ((mBring (mUse a p) p) 2 + 1) = mBear (mBring (mUse a p) p) p by unfold mBear xbit; rw [hu2]]
          refine xr_iconst (v := 0) cx dX9_writes_99 (by decide) ?_
          refine xr_istore_3 cx dX9_writes_100 ?_
          exact lp_X9_writes (by omega) hG cx cz (mWr a) 0 _ (by omega) hi2 h
        · have hnf : ¬ mFront (mUse a p) p = true := fun q => by rw [if_pos q] at cq57; exact absurd cq57 (by decide)
          refine xr_aload_0 cx dX9_writes_60 ?_
          refine xr_iload_1 cx dX9_writes_61 ?_
          refine xr_iconst (v := 2) cx dX9_writes_62 (by decide) ?_
          refine xr_idiv cx dX9_writes_63 (by decide) ?_
          rw [x_d2 (by omega)]
          refine xr_V1v (ν := mX9_pulls) cx dX9_writes_64 rfl ml_X9_62 vf_X9_pulls g0 (Nat.le_of_ble_eq_true rfl) (m_X9_pulls hG (show p / 2 < 3 by omega) ?_)
          rw [show mPull (mUse a p) (p / 2) = mBring (mUse a p) p from (if_neg hnf).symm]
          refine xr_aload_0 cx dX9_writes_67 ?_
          refine xr_getR cx dX9_writes_68 fl_X9_7 g0 rfl ?_
          refine xr_iconst (v := 2) cx dX9_writes_71 (by decide) ?_
          refine xr_ialdN (j := 2) cx dX9_writes_72 g1 rfl (by decide) (by decide) ?_
          rw [su_same]
          rw [hv2]
          refine xr_istore_2 cx dX9_writes_73 ?_
          refine xr_aload_0 cx dX9_writes_74 ?_
          refine xr_getR cx dX9_writes_75 fl_X9_7 g0 rfl ?_
          refine xr_bipush (v := 17) cx dX9_writes_78 (by decide) ?_
          refine xr_iload_1 cx dX9_writes_80 ?_
          refine xr_iadd cx dX9_writes_81 ?_
          refine xr_dup2 cx dX9_writes_82 rfl rfl ?_
          refine xr_ialdN (j := 17 + p) cx dX9_writes_83 g1 (nI_add 17 p) (by omega) (by decide) ?_
          rw [su_same]
          refine xr_iconst (v := 1) cx dX9_writes_84 (by decide) ?_
          refine xr_iload_2 cx dX9_writes_85 ?_
          refine xr_ishl cx dX9_writes_86 ?_
          refine xr_ior cx dX9_writes_87 ?_
          refine xr_iastN (j := 17 + p) cx dX9_writes_88 g1 (nI_add 17 p) (by omega) (by decide) ?_
          rw [su_same, su_su]
          
          refine xr_aload_0 cx dX9_writes_89 ?_
          refine xr_getR cx dX9_writes_90 fl_X9_7 g0 rfl ?_
          refine xr_iconst (v := 2) cx dX9_writes_93 (by decide) ?_
          refine xr_dup2 cx dX9_writes_94 rfl rfl ?_
          refine xr_ialdN (j := 2) cx dX9_writes_95 g1 rfl (by decide) (by decide) ?_
          rw [su_same]
          rw [upd_ne _ _ (by omega)]
          refine xr_iconst (v := 1) cx dX9_writes_96 (by decide) ?_
          refine xr_iadd cx dX9_writes_97 ?_
          refine xr_iastN (j := 2) cx dX9_writes_98 g1 rfl (by decide) (by decide) ?_
          rw [su_same, su_su]
          rw [show upd (upd (mBring (mUse a p) p) (17 + p) ((mBring (mUse a p) p) (17 + p) ||| (1 : Int32) <<< (nI (mWr a) &&& 31))) 2 ((mBring (mUse a p) p) 2 + 1) = mBear (mBring (mUse a p) p) p by unfold mBear xbit; rw [hu2]]
          refine xr_iconst (v := 0) cx dX9_writes_99 (by decide) ?_
          refine xr_istore_3 cx dX9_writes_100 ?_
          exact lp_X9_writes (by omega) hG cx cz (mWr a) 0 _ (by omega) hi2 h
    · exact absurd cq25 (nI_nm5 (by omega))
  · exact absurd (nI_inj (by omega) (by omega) cq12) (by omega)
theorem m_X9_plans {l : Launch} {E : XEnv} {d : Nat} {σ : XSt} {a : Nat → Int32} {Q : XSt → Prop} (hG : xGl E) {x y : Int32} (hI : xInv a) (hn : mSt a < 30) (h : Q (su σ 1 (mPlan a x y))) : XMv l E d mX9_plans [.ref (xad E 0), .int x, .int y] (su σ 1 a) Q := by
  have g0 := hG.1
  have g1 := hG.2.1
  have g2 := hG.2.2.1
  have g3 := hG.2.2.2.1
  have g4 := hG.2.2.2.2.1
  have g5 := hG.2.2.2.2.2.1
  have g6 := hG.2.2.2.2.2.2.1
  have g7 := hG.2.2.2.2.2.2.2.1
  obtain ⟨hx, hO, hN, hD, hW, hE, hA⟩ := id hI
  obtain ⟨ix1, ix2, ix3, ix4, iy1, iy2, iy3, iy4⟩ := id hx
  refine xr_entry (lv := [some (.ref (xad E 0)), some (.int x), some (.int y)]) (by decide +kernel) (by simp [Value.category]) (Nat.le_of_ble_eq_true rfl) rfl (fun w hw cx cz => ?_)
  subst hw
  refine xr_aload_0 cx dX9_plans_0 ?_
  refine xr_getR cx dX9_plans_1 fl_X9_7 g0 rfl ?_
  refine xr_bipush (v := 109) cx dX9_plans_4 (by decide) ?_
  refine xr_aload_0 cx dX9_plans_6 ?_
  refine xr_getR cx dX9_plans_7 fl_X9_7 g0 rfl ?_
  refine xr_iconst (v := 1) cx dX9_plans_10 (by decide) ?_
  refine xr_ialdN (j := 1) cx dX9_plans_11 g1 rfl (by decide) (by decide) ?_
  rw [su_same]
  rw [ix1]
  refine xr_iadd cx dX9_plans_12 ?_
  refine xr_iload_1 cx dX9_plans_13 ?_
  refine xr_iastN (j := 109 + mSt a) cx dX9_plans_14 g1 (nI_add 109 _) (by omega) (by decide) ?_
  rw [su_same, su_su]
  refine xr_aload_0 cx dX9_plans_15 ?_
  refine xr_getR cx dX9_plans_16 fl_X9_7 g0 rfl ?_
  refine xr_sipush (v := 139) cx dX9_plans_19 (by decide) ?_
  refine xr_aload_0 cx dX9_plans_22 ?_
  refine xr_getR cx dX9_plans_23 fl_X9_7 g0 rfl ?_
  refine xr_iconst (v := 1) cx dX9_plans_26 (by decide) ?_
  refine xr_ialdN (j := 1) cx dX9_plans_27 g1 rfl (by decide) (by decide) ?_
  rw [su_same]
  rw [upd_ne _ _ (by omega), ix1]
  refine xr_iadd cx dX9_plans_28 ?_
  refine xr_iload_2 cx dX9_plans_29 ?_
  refine xr_iastN (j := 139 + mSt a) cx dX9_plans_30 g1 (nI_add 139 _) (by omega) (by decide) ?_
  rw [su_same, su_su]
  refine xr_aload_0 cx dX9_plans_31 ?_
  refine xr_getR cx dX9_plans_32 fl_X9_7 g0 rfl ?_
  refine xr_sipush (v := 169) cx dX9_plans_35 (by decide) ?_
  refine xr_aload_0 cx dX9_plans_38 ?_
  refine xr_getR cx dX9_plans_39 fl_X9_7 g0 rfl ?_
  refine xr_iconst (v := 1) cx dX9_plans_42 (by decide) ?_
  refine xr_ialdN (j := 1) cx dX9_plans_43 g1 rfl (by decide) (by decide) ?_
  rw [su_same]
  rw [upd_ne _ _ (by omega), upd_ne _ _ (by omega), ix1]
  refine xr_iadd cx dX9_plans_44 ?_
  refine xr_iconst (v := 0) cx dX9_plans_45 (by decide) ?_
  refine xr_iastN (j := 169 + mSt a) cx dX9_plans_46 g1 (nI_add 169 _) (by omega) (by decide) ?_
  rw [su_same, su_su]
  refine xr_aload_0 cx dX9_plans_47 ?_
  refine xr_getR cx dX9_plans_48 fl_X9_7 g0 rfl ?_
  refine xr_sipush (v := 199) cx dX9_plans_51 (by decide) ?_
  refine xr_aload_0 cx dX9_plans_54 ?_
  refine xr_getR cx dX9_plans_55 fl_X9_7 g0 rfl ?_
  refine xr_iconst (v := 1) cx dX9_plans_58 (by decide) ?_
  refine xr_ialdN (j := 1) cx dX9_plans_59 g1 rfl (by decide) (by decide) ?_
  rw [su_same]
  rw [upd_ne _ _ (by omega), upd_ne _ _ (by omega), upd_ne _ _ (by omega), ix1]
  refine xr_iadd cx dX9_plans_60 ?_
  refine xr_iconst (v := 0) cx dX9_plans_61 (by decide) ?_
  refine xr_iastN (j := 199 + mSt a) cx dX9_plans_62 g1 (nI_add 199 _) (by omega) (by decide) ?_
  rw [su_same, su_su]
  refine xr_aload_0 cx dX9_plans_63 ?_
  refine xr_getR cx dX9_plans_64 fl_X9_7 g0 rfl ?_
  refine xr_iconst (v := 1) cx dX9_plans_67 (by decide) ?_
  refine xr_dup2 cx dX9_plans_68 rfl rfl ?_
  refine xr_ialdN (j := 1) cx dX9_plans_69 g1 rfl (by decide) (by decide) ?_
  rw [su_same]
  refine xr_iconst (v := 1) cx dX9_plans_70 (by decide) ?_
  refine xr_iadd cx dX9_plans_71 ?_
  refine xr_iastN (j := 1) cx dX9_plans_72 g1 rfl (by decide) (by decide) ?_
  rw [su_same, su_su]
  refine xr_vret cx cz dX9_plans_73 rfl ?_
  refine q_s h ?_
  unfold mPlan
  rw [upd_ne _ _ (show 1 ≠ 199 + mSt a by omega), upd_ne _ _ (show 1 ≠ 169 + mSt a by omega), upd_ne _ _ (show 1 ≠ 139 + mSt a by omega), upd_ne a _ (show 1 ≠ 109 + mSt a by omega)]
  rw [show upd (upd (upd (upd a (109 + mSt a) x) (139 + mSt a) y) (169 + mSt a) 0) (199 + mSt a) 0 = upd (upd a (109 + mSt a) x) (139 + mSt a) y from ?_]
  funext k
  by_cases e1 : k = 199 + mSt a
  · subst e1; rw [upd_same, upd_ne _ _ (by omega), upd_ne _ _ (by omega), hE _ hn, show mWr a - (mSt a + 1) = 0 by omega]; rfl
  · rw [upd_ne _ _ e1]
    by_cases e2 : k = 169 + mSt a
    · subst e2; rw [upd_same, upd_ne _ _ (by omega), upd_ne _ _ (by omega), hA _ (Nat.le_refl _) hn]
    · rw [upd_ne _ _ e2]
