theorem RB_cells {σ τ : XSt} {b c : Nat} {a : Nat → Int32} (h : RB σ c a) (g12 : τ (b + 1) 2 = σ (c + 1) 2) (g13 : τ (b + 1) 3 = σ (c + 1) 3) (g3 : τ (b + 3) = σ (c + 3)) (g5 : τ (b + 5) = σ (c + 5)) (g63 : τ (b + 6) 3 = σ (c + 6) 3) (g64 : τ (b + 6) 4 = σ (c + 6) 4) (g65 : τ (b + 6) 5 = σ (c + 6) 5) (g66 : τ (b + 6) 6 = σ (c + 6) 6) (g8 : τ (b + 8) = σ (c + 8)) (g10 : τ (b + 10) = σ (c + 10)) (g12b : τ (b + 12) = σ (c + 12)) (g132 : τ (b + 13) 2 = σ (c + 13) 2) (g133 : τ (b + 13) 3 = σ (c + 13) 3) (g15 : τ (b + 15) = σ (c + 15)) (g17 : τ (b + 17) = σ (c + 17)) (g18 : ∀ j, 1 ≤ j ∧ j ≤ 6 → τ (b + 18) j = σ (c + 18) j) (g20 : τ (b + 20) = σ (c + 20)) : RB τ b a := by
  refine RB_copy h (fun i j k hk => ?_) g133
  unfold kap at hk
  split at hk
  · by_cases e : j = 2
    · rw [e]; exact g12
    · by_cases e2 : j = 3
      · rw [e2]; exact g13
      · rw [if_neg e, if_neg e2] at hk; cases hk
  · exact congrFun g3 j
  · exact congrFun g5 j
  · by_cases e : j = 3
    · rw [e]; exact g63
    · by_cases e2 : j = 4
      · rw [e2]; exact g64
      · by_cases e3 : j = 5
        · rw [e3]; exact g65
        · by_cases e4 : j = 6
          · rw [e4]; exact g66
          · rw [if_neg e, if_neg e2, if_neg e3, if_neg e4] at hk; cases hk
  · exact congrFun g8 j
  · exact congrFun g10 j
  · exact congrFun g12b j
  · by_cases e : j = 2
    · rw [e]; exact g132
    · rw [if_neg e] at hk; cases hk
  · exact congrFun g15 j
  · exact congrFun g17 j
  · by_cases e : 1 ≤ j ∧ j ≤ 6
    · exact g18 j e
    · rw [if_neg e] at hk; cases hk
  · exact congrFun g20 j
  · cases hk
def xcpL (b c : Nat) (σ : XSt) : XSt := xcpT b c (xcpP b c (xcpB b c (xcpS b c σ)))
theorem RB_cpL {σ : XSt} {b c : Nat} {a : Nat → Int32} (h : RB σ c a) (hbc : b + 21 ≤ c ∨ c + 21 ≤ b) : RB (xcpL b c σ) b a := by
  unfold xcpL xcpT xcpP xcpB xcpS
  refine RB_cells h ?_ ?_ ?_ ?_ ?_ ?_ ?_ ?_ ?_ ?_ ?_ ?_ ?_ ?_ ?_ (fun j hj => ?_) ?_
  case refine_16 =>
    rcases (show j = 1 ∨ j = 2 ∨ j = 3 ∨ j = 4 ∨ j = 5 ∨ j = 6 by omega) with rfl | rfl | rfl | rfl | rfl | rfl <;> simp (disch := decide) only [su_same, su_near, su_far _ _ hbc, upd_same, upd_ne]
  all_goals simp (disch := decide) only [su_same, su_near, su_far _ _ hbc, upd_same, upd_ne]
theorem xfr_cpL {σ : XSt} {b c : Nat} : xfr σ (xcpL b c σ) b := by
  unfold xcpL xcpT xcpP xcpB xcpS
  intro k hk
  repeat rw [su_ne _ _ (by omega)]
theorem m_X2_copyFrom {l : Launch} {E : XEnv} {d b c : Nat} {σ : XSt} {Q : XSt → Prop} (hL : xLec E b) (hM : xLec E c) (hbc : b + 21 ≤ c ∨ c + 21 ≤ b) (h : Q (xcpL b c σ)) : XMv l E (d + 3) mX2_copyFrom [.ref (xad E b), .ref (xad E c)] σ Q := by
  obtain ⟨s0, s1, s2, s3, s4, s5, s6, s7, s8, s9, s10, s11, s12, s13, s14, s15, s16, s17, s18, s19, s20⟩ := id hL
  obtain ⟨t0, t1, t2, t3, t4, t5, t6, t7, t8, t9, t10, t11, t12, t13, t14, t15, t16, t17, t18, t19, t20⟩ := id hM
  refine xr_entry (lv := [some (.ref (xad E b)), some (.ref (xad E c))]) (by decide +kernel) (by simp [Value.category]) (Nat.le_of_ble_eq_true rfl) rfl (fun w hw cx cz => ?_)
  subst hw
  refine xr_aload_0 cx dX2_copyFrom_0 ?_
  refine xr_getR cx dX2_copyFrom_1 fl_X2_12 s0 rfl ?_
  refine xr_aload_1 cx dX2_copyFrom_4 ?_
  refine xr_getR cx dX2_copyFrom_5 fl_X2_12 t0 rfl ?_
  refine xr_V1v (ν := mX6_copyFrom) cx dX2_copyFrom_8 rfl ml_X2_158 vf_X6_copyFrom s1 (Nat.le_of_ble_eq_true rfl) (m_X6_copyFrom hL hM hbc ?_)
  refine xr_aload_0 cx dX2_copyFrom_11 ?_
  refine xr_getR cx dX2_copyFrom_12 fl_X2_21 s0 rfl ?_
  refine xr_aload_1 cx dX2_copyFrom_15 ?_
  refine xr_getR cx dX2_copyFrom_16 fl_X2_21 t0 rfl ?_
  refine xr_V1v (ν := mX0_copyFrom) cx dX2_copyFrom_19 rfl ml_X2_162 vf_X0_copyFrom s6 (Nat.le_of_ble_eq_true rfl) (m_X0_copyFrom hL hM hbc ?_)
  refine xr_aload_0 cx dX2_copyFrom_22 ?_
  refine xr_getR cx dX2_copyFrom_23 fl_X2_28 s0 rfl ?_
  refine xr_aload_1 cx dX2_copyFrom_26 ?_
  refine xr_getR cx dX2_copyFrom_27 fl_X2_28 t0 rfl ?_
  refine xr_V1v (ν := mX3_copyFrom) cx dX2_copyFrom_30 rfl ml_X2_165 vf_X3_copyFrom s13 (Nat.le_of_ble_eq_true rfl) (m_X3_copyFrom hL hM hbc ?_)
  refine xr_aload_0 cx dX2_copyFrom_33 ?_
  refine xr_getR cx dX2_copyFrom_34 fl_X2_35 s0 rfl ?_
  refine xr_aload_1 cx dX2_copyFrom_37 ?_
  refine xr_getR cx dX2_copyFrom_38 fl_X2_35 t0 rfl ?_
  refine xr_V1v (ν := mX7_copyFrom) cx dX2_copyFrom_41 rfl ml_X2_168 vf_X7_copyFrom s18 (Nat.le_of_ble_eq_true rfl) (m_X7_copyFrom hL hM hbc ?_)
  refine xr_vret cx cz dX2_copyFrom_44 rfl ?_
  exact h
def xus (x k : Int32) : Int32 := (x.toUInt32 >>> (k.toUInt32 &&& Int32.toUInt32 31)).toInt32
def sw1 (x : Int32) : Int32 := x - (xus x 1 &&& 1431655765)
def sw2 (x : Int32) : Int32 := (x &&& 858993459) + (xus x 2 &&& 858993459)
def sw3 (x : Int32) : Int32 := (x + xus x 4) &&& 252645135
def sw4 (x : Int32) : Int32 := x + xus x 8
def sw5 (x : Int32) : Int32 := x + xus x 16
/-- the JDK's own count of bits -/
def swar (x : Int32) : Int32 := sw5 (sw4 (sw3 (sw2 (sw1 x)))) &&& 63
theorem m_bitCount {l : Launch} {E : XEnv} {d : Nat} {x : Int32} {σ : XSt} {Q : Int32 → XSt → Prop} (h : Q (swar x) σ) : XMi l E d mJ6_bitCount_0f7a4 [.int x] σ Q := by
  refine xr_entry (lv := [some (.int x)]) (by decide +kernel) (by simp [Value.category]) (Nat.le_of_ble_eq_true rfl) rfl (fun w hw cx cz => ?_)
  subst hw
  refine xr_iload_0 cx dJ6_bitCount_0f7a4_0 ?_
  refine xr_iload_0 cx dJ6_bitCount_0f7a4_1 ?_
  refine xr_iconst (v := 1) cx dJ6_bitCount_0f7a4_2 (by decide) ?_
  refine xr_iushr cx dJ6_bitCount_0f7a4_3 ?_
  refine xr_ldcw cx dJ6_bitCount_0f7a4_4 kc_J6_265 ?_
  refine xr_iand cx dJ6_bitCount_0f7a4_7 ?_
  refine xr_isub cx dJ6_bitCount_0f7a4_8 ?_
  refine xr_istore_0 cx dJ6_bitCount_0f7a4_9 ?_
  refine xr_iload_0 cx dJ6_bitCount_0f7a4_10 ?_
  refine xr_ldcw cx dJ6_bitCount_0f7a4_11 kc_J6_266 ?_
  refine xr_iand cx dJ6_bitCount_0f7a4_14 ?_
  refine xr_iload_0 cx dJ6_bitCount_0f7a4_15 ?_
  refine xr_iconst (v := 2) cx dJ6_bitCount_0f7a4_16 (by decide) ?_
  refine xr_iushr cx dJ6_bitCount_0f7a4_17 ?_
  refine xr_ldcw cx dJ6_bitCount_0f7a4_18 kc_J6_266 ?_
  refine xr_iand cx dJ6_bitCount_0f7a4_21 ?_
  refine xr_iadd cx dJ6_bitCount_0f7a4_22 ?_
  refine xr_istore_0 cx dJ6_bitCount_0f7a4_23 ?_
  refine xr_iload_0 cx dJ6_bitCount_0f7a4_24 ?_
  refine xr_iload_0 cx dJ6_bitCount_0f7a4_25 ?_
  refine xr_iconst (v := 4) cx dJ6_bitCount_0f7a4_26 (by decide) ?_
  refine xr_iushr cx dJ6_bitCount_0f7a4_27 ?_
  refine xr_iadd cx dJ6_bitCount_0f7a4_28 ?_
  refine xr_ldcw cx dJ6_bitCount_0f7a4_29 kc_J6_267 ?_
  refine xr_iand cx dJ6_bitCount_0f7a4_32 ?_
  refine xr_istore_0 cx dJ6_bitCount_0f7a4_33 ?_
  refine xr_iload_0 cx dJ6_bitCount_0f7a4_34 ?_
  refine xr_iload_0 cx dJ6_bitCount_0f7a4_35 ?_
  refine xr_bipush (v := 8) cx dJ6_bitCount_0f7a4_36 (by decide) ?_
  refine xr_iushr cx dJ6_bitCount_0f7a4_38 ?_
  refine xr_iadd cx dJ6_bitCount_0f7a4_39 ?_
  refine xr_istore_0 cx dJ6_bitCount_0f7a4_40 ?_
  refine xr_iload_0 cx dJ6_bitCount_0f7a4_41 ?_
  refine xr_iload_0 cx dJ6_bitCount_0f7a4_42 ?_
  refine xr_bipush (v := 16) cx dJ6_bitCount_0f7a4_43 (by decide) ?_
  refine xr_iushr cx dJ6_bitCount_0f7a4_45 ?_
  refine xr_iadd cx dJ6_bitCount_0f7a4_46 ?_
  refine xr_istore_0 cx dJ6_bitCount_0f7a4_47 ?_
  refine xr_iload_0 cx dJ6_bitCount_0f7a4_48 ?_
  refine xr_bipush (v := 63) cx dJ6_bitCount_0f7a4_49 (by decide) ?_
  refine xr_iand cx dJ6_bitCount_0f7a4_51 ?_
  refine xr_iret cx cz dJ6_bitCount_0f7a4_52 rfl ?_
  exact h
theorem m_X2_stepsGone {l : Launch} {E : XEnv} {d b : Nat} {σ : XSt} {Q : Int32 → XSt → Prop} {a : Nat → Int32} (hL : xLec E b) (hR : RB σ b a) (h : Q (a 2 - swar (xit (fun p acc => acc ||| a (17 + p)) 6 0 0 ||| mPh a)) σ) : XMi l E (d + 2) mX2_stepsGone [.ref (xad E b)] σ Q := by
  obtain ⟨s0, s1, s2, s3, s4, s5, s6, s7, s8, s9, s10, s11, s12, s13, s14, s15, s16, s17, s18, s19, s20⟩ := id hL
  refine xr_entry (lv := [some (.ref (xad E b))]) (by decide +kernel) (by simp [Value.category]) (Nat.le_of_ble_eq_true rfl) rfl (fun w hw cx cz => ?_)
  subst hw
  refine xr_aload_0 cx dX2_stepsGone_0 ?_
  refine xr_getR cx dX2_stepsGone_1 fl_X2_12 s0 rfl ?_
  refine xr_getI cx dX2_stepsGone_4 fl_X2_49 s1 rfl ?_
  refine xr_aload_0 cx dX2_stepsGone_7 ?_
  refine xr_getR cx dX2_stepsGone_8 fl_X2_21 s0 rfl ?_
  rw [RB_written hR]
  refine xr_V0i (ν := mX0_allSteps) cx dX2_stepsGone_11 rfl ml_X2_150 vf_X0_allSteps s6 (Nat.le_of_ble_eq_true rfl) (m_X0_allSteps hL ?_)
  rw [xit_cong (g := fun p acc => acc ||| a (17 + p)) 6 0 0 (fun k y h1 h2 => by rw [RB_on hR (by omega)])]
  refine xr_aload_0 cx dX2_stepsGone_14 ?_
  refine xr_getR cx dX2_stepsGone_15 fl_X2_28 s0 rfl ?_
  refine xr_getI cx dX2_stepsGone_18 fl_X2_129 s13 rfl ?_
  rw [hR.2]
  refine xr_ior cx dX2_stepsGone_21 ?_
  refine xr_S1i (ν := mJ6_bitCount_0f7a4) cx dX2_stepsGone_22 rfl ml_X2_153 sf_J6_bitCount_0f7a4 (Nat.le_of_ble_eq_true rfl) (m_bitCount ?_)
  refine xr_isub cx dX2_stepsGone_25 ?_
  refine xr_iret cx cz dX2_stepsGone_26 rfl ?_
  exact h
/-- a question for the written step s: what is told, the row behind it -/
def mAsk (a : Nat → Int32) (s : Nat) : Int32 × (Nat → Int32) :=
  let c := upd a (169 + s) (a (169 + s) + 1)
  match mPan a s with
  | none => if bt (mPh a) s then (2, upd c 15 (c 15 + 1)) else (3, upd c 16 (c 16 + 1))
  | some p => (if mFront a p then 0 else 1, upd (mBring c p) 14 (mBring c p 14 + 1))
theorem mAsk_none {a : Nat → Int32} {s : Nat} (h : mPan a s = none) : mAsk a s = if bt (mPh a) s = true then (2, upd (upd a (169 + s) (a (169 + s) + 1)) 15 (upd a (169 + s) (a (169 + s) + 1) 15 + 1)) else (3, upd (upd a (169 + s) (a (169 + s) + 1)) 16 (upd a (169 + s) (a (169 + s) + 1) 16 + 1)) := by
  unfold mAsk
  rw [h]
theorem mAsk_some {a : Nat → Int32} {s p : Nat} (h : mPan a s = some p) : mAsk a s = (if mFront a p = true then 0 else 1, upd (mBring (upd a (169 + s) (a (169 + s) + 1)) p) 14 (mBring (upd a (169 + s) (a (169 + s) + 1)) p 14 + 1)) := by
  unfold mAsk
  rw [h]
theorem RB_ask {σ : XSt} {b : Nat} {a : Nat → Int32} {s : Nat} (h : RB σ b a) (hs : s < 30) (h4 : mTk a ≤ 40) : RB (su σ (b + 20) (upd (σ (b + 20)) s (σ (b + 20) s + 1))) b (upd a (169 + s) (a (169 + s) + 1)) := by
  rw [RB_asked h hs]
  exact RB_set (i := 20) (j := s) (k := 169 + s) (if_pos hs) h (mPh_upd (by omega) (by omega) h4)
theorem m_X2_answer_n {l : Launch} {E : XEnv} {d b : Nat} {σ : XSt} {Q : Int32 → XSt → Prop} {s : Nat} {a : Nat → Int32} (hL : xLec E b) (hR : RB σ b a) (hI : xIx a) (hs : s < 30) (hp : mPan a s = none) (h : ∀ τ, RB τ b (mAsk a s).2 → xfr σ τ b → Q (mAsk a s).1 τ) : XMi l E (d + 3) mX2_answer [.ref (xad E b), .int (nI s)] σ Q := by
  obtain ⟨ix1, ix2, ix3, ix4, iy1, iy2, iy3, iy4⟩ := id hI
  have hR2 := RB_ask hR hs iy4
  have hP2 : mPan (upd a (169 + s) (a (169 + s) + 1)) s = mPan a s := xfst_cong 6 0 (fun k h1 h2 => by rw [upd_ne _ _ (by omega)])
  have hH2 : mPh (upd a (169 + s) (a (169 + s) + 1)) = mPh a := mPh_upd (by omega) (by omega) iy4
  have e0 := mAsk_none hp
  obtain ⟨s0, s1, s2, s3, s4, s5, s6, s7, s8, s9, s10, s11, s12, s13, s14, s15, s16, s17, s18, s19, s20⟩ := id hL
  refine xr_entry (lv := [some (.ref (xad E b)), some (.int (nI s)), none, none]) (by decide +kernel) (by simp [Value.category]) (Nat.le_of_ble_eq_true rfl) rfl (fun w hw cx cz => ?_)
  subst hw
  refine xr_aload_0 cx dX2_answer_0 ?_
  refine xr_getR cx dX2_answer_1 fl_X2_35 s0 rfl ?_
  refine xr_getR cx dX2_answer_4 fl_X2_135 s18 rfl ?_
  refine xr_iload_1 cx dX2_answer_7 ?_
  refine xr_V1v (ν := mX5_raise) cx dX2_answer_8 rfl ml_X2_138 vf_X5_raise s19 (Nat.le_of_ble_eq_true rfl) (m_X5_raise s19 s20 (by decide) ?_)
  rw [rowAt_in hs (by decide), rowPut_in hs (by decide)]
  refine xr_aload_0 cx dX2_answer_11 ?_
  refine xr_getR cx dX2_answer_12 fl_X2_21 s0 rfl ?_
  refine xr_iload_1 cx dX2_answer_15 ?_
  refine xr_V1i (ν := mX0_panelWith) cx dX2_answer_16 rfl ml_X2_104 vf_X0_panelWith s6 (Nat.le_of_ble_eq_true rfl) (m_X0_panelWith hL hs ?_)
  rw [RB_pan hR2, hP2, hp]
  show XG _ _ _ _ [.int (-1)] _
  refine xr_istore_2 cx dX2_answer_19 ?_
  refine xr_iload_2 cx dX2_answer_20 ?_
  refine xr_iconst (v := -1) cx dX2_answer_21 (by decide) ?_
  refine xr_icmp_eq (tgt := 65) cx dX2_answer_22 (by decide) (fun cq22 => ?_) (fun cq22 => ?_)
  · refine xr_aload_0 cx dX2_answer_65 ?_
    refine xr_getR cx dX2_answer_66 fl_X2_28 s0 rfl ?_
    refine xr_iload_1 cx dX2_answer_69 ?_
    refine xr_V1i (ν := mX3_show) cx dX2_answer_70 rfl ml_X2_107 vf_X3_show s13 (Nat.le_of_ble_eq_true rfl) (m_X3_show hL hs ?_)
    rw [hR2.2, hH2]
    refine xr_if_eq (tgt := 91) cx dX2_answer_73 (by decide) (fun cq73 => ?_) (fun cq73 => ?_)
    · have hb : ¬ bt (mPh a) s = true := by intro q; rw [if_pos q] at cq73; exact absurd cq73 (by decide)
      rw [if_neg hb] at e0
      refine xr_aload_0 cx dX2_answer_91 ?_
      refine xr_getR cx dX2_answer_92 fl_X2_35 s0 rfl ?_
      refine xr_dup cx dX2_answer_95 rfl ?_
      refine xr_getI cx dX2_answer_96 fl_X2_147 s18 rfl ?_
      refine xr_iconst (v := 1) cx dX2_answer_99 (by decide) ?_
      refine xr_iadd cx dX2_answer_100 ?_
      refine xr_putI cx dX2_answer_101 fp_X2_147 s18 rfl ?_
      refine xr_iconst (v := 3) cx dX2_answer_104 (by decide) ?_
      refine xr_iret cx cz dX2_answer_105 rfl ?_
      rw [e0] at h
      exact h _ (RB_tal (i := 6) hR2 (by decide)) (xfr_tr (xfr_su σ _ (by decide)) (xfr_su _ _ (by decide)))
    · have hb : bt (mPh a) s = true := by by_cases q : bt (mPh a) s = true; exact q; rw [if_neg q] at cq73; exact absurd rfl cq73
      rw [if_pos hb] at e0
      refine xr_aload_0 cx dX2_answer_76 ?_
      refine xr_getR cx dX2_answer_77 fl_X2_35 s0 rfl ?_
      refine xr_dup cx dX2_answer_80 rfl ?_
      refine xr_getI cx dX2_answer_81 fl_X2_144 s18 rfl ?_
      refine xr_iconst (v := 1) cx dX2_answer_84 (by decide) ?_
      refine xr_iadd cx dX2_answer_85 ?_
      refine xr_putI cx dX2_answer_86 fp_X2_144 s18 rfl ?_
      refine xr_iconst (v := 2) cx dX2_answer_89 (by decide) ?_
      refine xr_iret cx cz dX2_answer_90 rfl ?_
      rw [e0] at h
      exact h _ (RB_tal (i := 5) hR2 (by decide)) (xfr_tr (xfr_su σ _ (by decide)) (xfr_su _ _ (by decide)))
  · exact absurd rfl cq22
theorem m_X2_answer_s {l : Launch} {E : XEnv} {d b : Nat} {σ : XSt} {Q : Int32 → XSt → Prop} {s p : Nat} {a : Nat → Int32} (hL : xLec E b) (hR : RB σ b a) (hI : xIx a) (hs : s < 30) (hp : mPan a s = some p) (h : ∀ τ, RB τ b (mAsk a s).2 → xfr σ τ b → Q (mAsk a s).1 τ) : XMi l E (d + 3) mX2_answer [.ref (xad E b), .int (nI s)] σ Q := by
  obtain ⟨ix1, ix2, ix3, ix4, iy1, iy2, iy3, iy4⟩ := id hI
  have hR2 := RB_ask hR hs iy4
  have hP2 : mPan (upd a (169 + s) (a (169 + s) + 1)) s = mPan a s := xfst_cong 6 0 (fun k h1 h2 => by rw [upd_ne _ _ (by omega)])
  have hH2 : mPh (upd a (169 + s) (a (169 + s) + 1)) = mPh a := mPh_upd (by omega) (by omega) iy4
  have hp6 := mPan_lt hp
  have e0 := mAsk_some hp
  have hF : (if mFront a p = true then (0 : Int32) else 1) = if (su σ (b + 20) (upd (σ (b + 20)) s (σ (b + 20) s + 1))) (b + 12) (p / 2) = nI p then 0 else 1 := by
    rw [su_near σ b _ (by decide)]
    by_cases q : mFront a p = true
    · rw [if_pos q, if_pos ((RB_isFront hR hp6).mpr q)]
    · rw [if_neg q, if_neg (fun z => q ((RB_isFront hR hp6).mp z))]
  obtain ⟨s0, s1, s2, s3, s4, s5, s6, s7, s8, s9, s10, s11, s12, s13, s14, s15, s16, s17, s18, s19, s20⟩ := id hL
  refine xr_entry (lv := [some (.ref (xad E b)), some (.int (nI s)), none, none]) (by decide +kernel) (by simp [Value.category]) (Nat.le_of_ble_eq_true rfl) rfl (fun w hw cx cz => ?_)
  subst hw
  refine xr_aload_0 cx dX2_answer_0 ?_
  refine xr_getR cx dX2_answer_1 fl_X2_35 s0 rfl ?_
  refine xr_getR cx dX2_answer_4 fl_X2_135 s18 rfl ?_
  refine xr_iload_1 cx dX2_answer_7 ?_
  refine xr_V1v (ν := mX5_raise) cx dX2_answer_8 rfl ml_X2_138 vf_X5_raise s19 (Nat.le_of_ble_eq_true rfl) (m_X5_raise s19 s20 (by decide) ?_)
  rw [rowAt_in hs (by decide), rowPut_in hs (by decide)]
  refine xr_aload_0 cx dX2_answer_11 ?_
  refine xr_getR cx dX2_answer_12 fl_X2_21 s0 rfl ?_
  refine xr_iload_1 cx dX2_answer_15 ?_
  refine xr_V1i (ν := mX0_panelWith) cx dX2_answer_16 rfl ml_X2_104 vf_X0_panelWith s6 (Nat.le_of_ble_eq_true rfl) (m_X0_panelWith hL hs ?_)
  rw [RB_pan hR2, hP2, hp]
  show XG _ _ _ _ [.int (nI p)] _
  refine xr_istore_2 cx dX2_answer_19 ?_
  refine xr_iload_2 cx dX2_answer_20 ?_
  refine xr_iconst (v := -1) cx dX2_answer_21 (by decide) ?_
  refine xr_icmp_eq (tgt := 65) cx dX2_answer_22 (by decide) (fun cq22 => ?_) (fun cq22 => ?_)
  · exact absurd cq22 (nI_nm1 (by omega))
  · refine xr_aload_0 cx dX2_answer_25 ?_
    refine xr_getR cx dX2_answer_26 fl_X2_21 s0 rfl ?_
    refine xr_iload_2 cx dX2_answer_29 ?_
    refine xr_V1i (ν := mX0_isInFront) cx dX2_answer_30 rfl ml_X2_117 vf_X0_isInFront s6 (Nat.le_of_ble_eq_true rfl) (m_X0_isInFront hL hp6 ?_)
    refine xr_istore_3 cx dX2_answer_33 ?_
    refine xr_aload_0 cx dX2_answer_34 ?_
    refine xr_getR cx dX2_answer_35 fl_X2_21 s0 rfl ?_
    refine xr_iload_2 cx dX2_answer_38 ?_
    refine xr_V1v (ν := mX0_bringToFront) cx dX2_answer_39 rfl ml_X2_88 vf_X0_bringToFront s6 (Nat.le_of_ble_eq_true rfl) (m_X0_bringToFront hL hp6 ?_)
    refine xr_aload_0 cx dX2_answer_42 ?_
    refine xr_getR cx dX2_answer_43 fl_X2_35 s0 rfl ?_
    refine xr_dup cx dX2_answer_46 rfl ?_
    refine xr_getI cx dX2_answer_47 fl_X2_141 s18 rfl ?_
    refine xr_iconst (v := 1) cx dX2_answer_50 (by decide) ?_
    refine xr_iadd cx dX2_answer_51 ?_
    refine xr_putI cx dX2_answer_52 fp_X2_141 s18 rfl ?_
    refine xr_iload_3 cx dX2_answer_55 ?_
    refine xr_if_eq (tgt := 63) cx dX2_answer_56 (by decide) (fun cq56 => ?_) (fun cq56 => ?_)
    · refine xr_iconst (v := 1) cx dX2_answer_63 (by decide) ?_
      refine xr_iret cx cz dX2_answer_64 rfl ?_
      have hT := RB_tal (i := 4) (RB_bring hR2 hp6) (by decide)
      have hX := xfr_tr (xfr_tr (xfr_su σ (b := b) (i := 20) (upd (σ (b + 20)) s (σ (b + 20) s + 1)) (by decide)) (xfr_bring (p := p))) (xfr_su _ (b := b) (i := 18) (upd ((xbring b p (su σ (b + 20) (upd (σ (b + 20)) s (σ (b + 20) s + 1)))) (b + 18)) 4 ((xbring b p (su σ (b + 20) (upd (σ (b + 20)) s (σ (b + 20) s + 1)))) (b + 18) 4 + 1)) (by decide))
      rw [e0] at h
      have h2 := h _ hT hX
      rw [hF] at h2
      first | (rw [if_pos (by by_cases q : (su σ (b + 20) (upd (σ (b + 20)) s (σ (b + 20) s + 1))) (b + 12) (p / 2) = nI p; exact q; rw [if_neg q] at cq56; exact absurd rfl cq56)] at h2; exact h2) | (rw [if_neg (fun q => by rw [if_pos q] at cq56; exact absurd cq56 (by decide))] at h2; exact h2)
    · refine xr_iconst (v := 0) cx dX2_answer_59 (by decide) ?_
      refine xr_goto (tgt := 64) cx dX2_answer_60 (by decide) ?_
      refine xr_iret cx cz dX2_answer_64 rfl ?_
      have hT := RB_tal (i := 4) (RB_bring hR2 hp6) (by decide)
      have hX := xfr_tr (xfr_tr (xfr_su σ (b := b) (i := 20) (upd (σ (b + 20)) s (σ (b + 20) s + 1)) (by decide)) (xfr_bring (p := p))) (xfr_su _ (b := b) (i := 18) (upd ((xbring b p (su σ (b + 20) (upd (σ (b + 20)) s (σ (b + 20) s + 1)))) (b + 18)) 4 ((xbring b p (su σ (b + 20) (upd (σ (b + 20)) s (σ (b + 20) s + 1)))) (b + 18) 4 + 1)) (by decide))
      rw [e0] at h
      have h2 := h _ hT hX
      rw [hF] at h2
      first | (rw [if_pos (by by_cases q : (su σ (b + 20) (upd (σ (b + 20)) s (σ (b + 20) s + 1))) (b + 12) (p / 2) = nI p; exact q; rw [if_neg q] at cq56; exact absurd rfl cq56)] at h2; exact h2) | (rw [if_neg (fun q => by rw [if_pos q] at cq56; exact absurd cq56 (by decide))] at h2; exact h2)
theorem m_X2_answer {l : Launch} {E : XEnv} {d b : Nat} {σ : XSt} {Q : Int32 → XSt → Prop} {s : Nat} {a : Nat → Int32} (hL : xLec E b) (hR : RB σ b a) (hI : xIx a) (hs : s < 30) (h : ∀ τ, RB τ b (mAsk a s).2 → xfr σ τ b → Q (mAsk a s).1 τ) : XMi l E (d + 3) mX2_answer [.ref (xad E b), .int (nI s)] σ Q := by
  cases hp : mPan a s with
  | none => exact m_X2_answer_n hL hR hI hs hp h
  | some p => exact m_X2_answer_s hL hR hI hs hp h
