def xadd (b n : Nat) (x y : Int32) (σ : XSt) : XSt := su (su (su σ (b + 3) (upd (σ (b + 3)) n x)) (b + 5) (upd (σ (b + 5)) n y)) (b + 1) (upd (σ (b + 1)) 2 (σ (b + 1) 2 + 1))
def xcpS (b c : Nat) (σ : XSt) : XSt := su (su (su σ (b + 3) (σ (c + 3))) (b + 5) (σ (c + 5))) (b + 1) (upd (upd (σ (b + 1)) 2 (σ (c + 1) 2)) 3 (σ (c + 1) 3))
def xtake (b t : Nat) (x y : Int32) (σ : XSt) : XSt := su (su (su σ (b + 15) (upd (σ (b + 15)) t x)) (b + 17) (upd (σ (b + 17)) t y)) (b + 13) (upd (upd (σ (b + 13)) 2 (σ (b + 13) 2 + 1)) 3 (σ (b + 13) 3 ||| y))
def xcpP (b c : Nat) (σ : XSt) : XSt := su (su (su σ (b + 15) (σ (c + 15))) (b + 17) (σ (c + 17))) (b + 13) (upd (upd (σ (b + 13)) 2 (σ (c + 13) 2)) 3 (σ (c + 13) 3))
def xcpT (b c : Nat) (σ : XSt) : XSt := su (su σ (b + 20) (σ (c + 20))) (b + 18) (upd (upd (upd (upd (upd (upd (σ (b + 18)) 1 (σ (c + 18) 1)) 2 (σ (c + 18) 2)) 3 (σ (c + 18) 3)) 4 (σ (c + 18) 4)) 5 (σ (c + 18) 5)) 6 (σ (c + 18) 6))
theorem m_X6_has {l : Launch} {E : XEnv} {d b : Nat} {σ : XSt} {Q : Int32 → XSt → Prop} {x : Int32} (hL : xLec E b) (h : Q (if ¬ x < 0 ∧ x < σ (b + 1) 2 then 1 else 0) σ) : XMi l E d mX6_has [.ref (xad E (b + 1)), .int x] σ Q := by
  obtain ⟨s0, s1, s2, s3, s4, s5, s6, s7, s8, s9, s10, s11, s12, s13, s14, s15, s16, s17, s18, s19, s20⟩ := id hL
  refine xr_entry (lv := [some (.ref (xad E (b + 1))), some (.int x)]) (by decide +kernel) (by simp [Value.category]) (Nat.le_of_ble_eq_true rfl) rfl (fun w hw cx cz => ?_)
  subst hw
  refine xr_iload_1 cx dX6_has_0 ?_
  refine xr_if_lt (tgt := 16) cx dX6_has_1 (by decide) (fun cq1 => ?_) (fun cq1 => ?_)
  · refine xr_iconst (v := 0) cx dX6_has_16 (by decide) ?_
    refine xr_zret cx cz dX6_has_17 rfl rfl ?_
    first | exact q_i h (if_pos ⟨cq1, Int32.not_le.mp cq9⟩).symm | exact q_i h (if_neg (fun q => Int32.not_le.mpr q.2 cq9)).symm | exact q_i h (if_neg (fun q => q.1 cq1)).symm
  · refine xr_iload_1 cx dX6_has_4 ?_
    refine xr_aload_0 cx dX6_has_5 ?_
    refine xr_getI cx dX6_has_6 fl_X6_23 s1 rfl ?_
    refine xr_icmp_ge (tgt := 16) cx dX6_has_9 (by decide) (fun cq9 => ?_) (fun cq9 => ?_)
    · refine xr_iconst (v := 0) cx dX6_has_16 (by decide) ?_
      refine xr_zret cx cz dX6_has_17 rfl rfl ?_
      first | exact q_i h (if_pos ⟨cq1, Int32.not_le.mp cq9⟩).symm | exact q_i h (if_neg (fun q => Int32.not_le.mpr q.2 cq9)).symm | exact q_i h (if_neg (fun q => q.1 cq1)).symm
    · refine xr_iconst (v := 1) cx dX6_has_12 (by decide) ?_
      refine xr_goto (tgt := 17) cx dX6_has_13 (by decide) ?_
      refine xr_zret cx cz dX6_has_17 rfl rfl ?_
      first | exact q_i h (if_pos ⟨cq1, Int32.not_le.mp cq9⟩).symm | exact q_i h (if_neg (fun q => Int32.not_le.mpr q.2 cq9)).symm | exact q_i h (if_neg (fun q => q.1 cq1)).symm
theorem m_X6_add {l : Launch} {E : XEnv} {d b : Nat} {σ : XSt} {Q : XSt → Prop} {n : Nat} {x y : Int32} (hL : xLec E b) (hn : σ (b + 1) 2 = nI n) (hn2 : n < 30) (h : Q (xadd b n x y σ)) : XMv l E (d + 1) mX6_add [.ref (xad E (b + 1)), .int x, .int y] σ Q := by
  obtain ⟨s0, s1, s2, s3, s4, s5, s6, s7, s8, s9, s10, s11, s12, s13, s14, s15, s16, s17, s18, s19, s20⟩ := id hL
  refine xr_entry (lv := [some (.ref (xad E (b + 1))), some (.int x), some (.int y)]) (by decide +kernel) (by simp [Value.category]) (Nat.le_of_ble_eq_true rfl) rfl (fun w hw cx cz => ?_)
  subst hw
  refine xr_aload_0 cx dX6_add_0 ?_
  refine xr_getI cx dX6_add_1 fl_X6_23 s1 rfl ?_
  refine xr_bipush (v := 30) cx dX6_add_4 (by decide) ?_
  rw [hn]
  refine xr_icmp_ge (tgt := 43) cx dX6_add_6 (by decide) (fun cq6 => ?_) (fun cq6 => ?_)
  · exact absurd cq6 (nI_ge (a := n) (b := 30) hn2 (by decide))
  · refine xr_aload_0 cx dX6_add_9 ?_
    refine xr_getR cx dX6_add_10 fl_X6_14 s1 rfl ?_
    refine xr_aload_0 cx dX6_add_13 ?_
    refine xr_getI cx dX6_add_14 fl_X6_23 s1 rfl ?_
    refine xr_iload_1 cx dX6_add_17 ?_
    rw [hn]
    refine xr_V2v (ν := mX5_put) cx dX6_add_18 rfl ml_X6_27 vf_X5_put s2 (Nat.le_of_ble_eq_true rfl) (m_X5_put s2 s3 (by decide) ?_)
    rw [rowPut_in (by omega) (by decide)]
    refine xr_aload_0 cx dX6_add_21 ?_
    refine xr_getR cx dX6_add_22 fl_X6_20 s1 rfl ?_
    refine xr_aload_0 cx dX6_add_25 ?_
    refine xr_getI cx dX6_add_26 fl_X6_23 s1 rfl ?_
    refine xr_iload_2 cx dX6_add_29 ?_
    rw [su_near _ _ _ (show 1 ≠ 3 by decide), hn]
    refine xr_V2v (ν := mX5_put) cx dX6_add_30 rfl ml_X6_27 vf_X5_put s4 (Nat.le_of_ble_eq_true rfl) (m_X5_put s4 s5 (by decide) ?_)
    rw [rowPut_in (by omega) (by decide)]
    refine xr_aload_0 cx dX6_add_33 ?_
    refine xr_dup cx dX6_add_34 rfl ?_
    refine xr_getI cx dX6_add_35 fl_X6_23 s1 rfl ?_
    refine xr_iconst (v := 1) cx dX6_add_38 (by decide) ?_
    refine xr_iadd cx dX6_add_39 ?_
    refine xr_putI cx dX6_add_40 fp_X6_23 s1 rfl ?_
    refine xr_vret cx cz dX6_add_43 rfl ?_
    refine q_s h ?_
    unfold xadd
    simp only [su_near _ _ _ (show 1 ≠ 5 by decide), su_near _ _ _ (show 1 ≠ 3 by decide), su_near _ _ _ (show 5 ≠ 3 by decide)]
theorem lp_X6_timesNeeded {E : XEnv} {d b : Nat} {σ : XSt} {Q : Int32 → XSt → Prop} {w : XO} {s v : Nat} (hL : xLec E b) (hs : s < 30) (hv : σ (b + 1) 3 = nI v) (hv2 : v ≤ 30) (cx : CX (d + 1) w E mX6_timesNeeded) (cz : CZi w E Q) : ∀ n i (x : Int32), i < 32 → n = v - i → Q (xit (fun k acc => if bt (σ (b + 5) k) s = true then acc + 1 else acc) n i x) σ → XG w E 6 [some (.ref (xad E (b + 1))), some (.int (nI s)), some (.int x), some (.int (nI i))] [] σ := by
  obtain ⟨s0, s1, s2, s3, s4, s5, s6, s7, s8, s9, s10, s11, s12, s13, s14, s15, s16, s17, s18, s19, s20⟩ := id hL
  intro n
  induction n with
  | zero =>
    intro i x hi0 hi h
    refine xr_iload_3 cx dX6_timesNeeded_6 ?_
    refine xr_aload_0 cx dX6_timesNeeded_7 ?_
    refine xr_getI cx dX6_timesNeeded_8 fl_X6_31 s1 rfl ?_
    rw [hv]
    refine xr_icmp_ge (tgt := 39) cx dX6_timesNeeded_11 (by decide) (fun cq11 => ?_) (fun cq11 => ?_)
    · refine xr_iload_2 cx dX6_timesNeeded_39 ?_
      refine xr_iret cx cz dX6_timesNeeded_40 rfl ?_
      exact h
    · exact absurd (nI_le (a := v) (b := i) (by omega) (by omega)) cq11
  | succ n ih =>
    intro i x hi0 hi h
    refine xr_iload_3 cx dX6_timesNeeded_6 ?_
    refine xr_aload_0 cx dX6_timesNeeded_7 ?_
    refine xr_getI cx dX6_timesNeeded_8 fl_X6_31 s1 rfl ?_
    rw [hv]
    refine xr_icmp_ge (tgt := 39) cx dX6_timesNeeded_11 (by decide) (fun cq11 => ?_) (fun cq11 => ?_)
    · exact absurd cq11 (nI_ge (a := i) (b := v) (by omega) (by omega))
    · refine xr_aload_0 cx dX6_timesNeeded_14 ?_
      refine xr_getR cx dX6_timesNeeded_15 fl_X6_20 s1 rfl ?_
      refine xr_iload_3 cx dX6_timesNeeded_18 ?_
      refine xr_V1i (ν := mX5_at) cx dX6_timesNeeded_19 rfl ml_X6_34 vf_X5_at s4 (Nat.le_of_ble_eq_true rfl) (m_X5_at s4 s5 (by decide) ?_)
      rw [rowAt_in (by omega) (by decide)]
      refine xr_iload_1 cx dX6_timesNeeded_22 ?_
      refine xr_N1i (ν := mX8_bitOf) cx dX6_timesNeeded_23 rfl nl_X6_38 sf_X8_bitOf (Nat.le_of_ble_eq_true rfl) (m_X8_bitOf ?_)
      rw [xbitOf_in hs]
      refine xr_iand cx dX6_timesNeeded_26 ?_
      refine xr_if_eq (tgt := 33) cx dX6_timesNeeded_27 (by decide) (fun cq27 => ?_) (fun cq27 => ?_)
      · have hb : bt (σ (b + 5) i) s = false := (xbit_tst (by omega)).mp cq27
        rw [xit_succ, if_neg (by rw [hb]; decide)] at h
        refine xr_iinc_3 (y := 1) cx dX6_timesNeeded_33 (by decide) ?_
        refine xr_goto (tgt := 6) cx dX6_timesNeeded_36 (by decide) ?_
        rw [nI_1]
        exact ih (i + 1) _ (by omega) (by omega) h
      · have hb : bt (σ (b + 5) i) s = true := by cases hq : bt (σ (b + 5) i) s with | true => rfl | false => exact absurd ((xbit_tst (by omega)).mpr hq) cq27
        rw [xit_succ, if_pos hb] at h
        refine xr_iinc_2 (y := 1) cx dX6_timesNeeded_30 (by decide) ?_
        refine xr_iinc_3 (y := 1) cx dX6_timesNeeded_33 (by decide) ?_
        refine xr_goto (tgt := 6) cx dX6_timesNeeded_36 (by decide) ?_
        rw [nI_1]
        exact ih (i + 1) _ (by omega) (by omega) h
theorem m_X6_timesNeeded {l : Launch} {E : XEnv} {d b : Nat} {σ : XSt} {Q : Int32 → XSt → Prop} {s v : Nat} (hL : xLec E b) (hs : s < 30) (hv : σ (b + 1) 3 = nI v) (hv2 : v ≤ 30) (h : Q (xit (fun k acc => if bt (σ (b + 5) k) s = true then acc + 1 else acc) (v - (s + 1)) (s + 1) 0) σ) : XMi l E (d + 1) mX6_timesNeeded [.ref (xad E (b + 1)), .int (nI s)] σ Q := by
  obtain ⟨s0, s1, s2, s3, s4, s5, s6, s7, s8, s9, s10, s11, s12, s13, s14, s15, s16, s17, s18, s19, s20⟩ := id hL
  refine xr_entry (lv := [some (.ref (xad E (b + 1))), some (.int (nI s)), none, none]) (by decide +kernel) (by simp [Value.category]) (Nat.le_of_ble_eq_true rfl) rfl (fun w hw cx cz => ?_)
  subst hw
  refine xr_iconst (v := 0) cx dX6_timesNeeded_0 (by decide) ?_
  refine xr_istore_2 cx dX6_timesNeeded_1 ?_
  refine xr_iload_1 cx dX6_timesNeeded_2 ?_
  refine xr_iconst (v := 1) cx dX6_timesNeeded_3 (by decide) ?_
  refine xr_iadd cx dX6_timesNeeded_4 ?_
  refine xr_istore_3 cx dX6_timesNeeded_5 ?_
  rw [nI_1]
  exact lp_X6_timesNeeded hL hs hv hv2 cx cz _ _ _ (by omega) rfl h
theorem m_X6_copyFrom {l : Launch} {E : XEnv} {d b c : Nat} {σ : XSt} {Q : XSt → Prop} (hL : xLec E b) (hM : xLec E c) (hbc : b + 21 ≤ c ∨ c + 21 ≤ b) (h : Q (xcpS b c σ)) : XMv l E (d + 2) mX6_copyFrom [.ref (xad E (b + 1)), .ref (xad E (c + 1))] σ Q := by
  obtain ⟨s0, s1, s2, s3, s4, s5, s6, s7, s8, s9, s10, s11, s12, s13, s14, s15, s16, s17, s18, s19, s20⟩ := id hL
  obtain ⟨t0, t1, t2, t3, t4, t5, t6, t7, t8, t9, t10, t11, t12, t13, t14, t15, t16, t17, t18, t19, t20⟩ := id hM
  refine xr_entry (lv := [some (.ref (xad E (b + 1))), some (.ref (xad E (c + 1)))]) (by decide +kernel) (by simp [Value.category]) (Nat.le_of_ble_eq_true rfl) rfl (fun w hw cx cz => ?_)
  subst hw
  refine xr_aload_0 cx dX6_copyFrom_0 ?_
  refine xr_getR cx dX6_copyFrom_1 fl_X6_14 s1 rfl ?_
  refine xr_aload_1 cx dX6_copyFrom_4 ?_
  refine xr_getR cx dX6_copyFrom_5 fl_X6_14 t1 rfl ?_
  refine xr_V1v (ν := mX5_copyFrom) cx dX6_copyFrom_8 rfl ml_X6_41 vf_X5_copyFrom s2 (Nat.le_of_ble_eq_true rfl) (m_X5_copyFrom s2 s3 (by decide) t2 t3 ?_)
  refine xr_aload_0 cx dX6_copyFrom_11 ?_
  refine xr_getR cx dX6_copyFrom_12 fl_X6_20 s1 rfl ?_
  refine xr_aload_1 cx dX6_copyFrom_15 ?_
  refine xr_getR cx dX6_copyFrom_16 fl_X6_20 t1 rfl ?_
  refine xr_V1v (ν := mX5_copyFrom) cx dX6_copyFrom_19 rfl ml_X6_41 vf_X5_copyFrom s4 (Nat.le_of_ble_eq_true rfl) (m_X5_copyFrom s4 s5 (by decide) t4 t5 ?_)
  refine xr_aload_0 cx dX6_copyFrom_22 ?_
  refine xr_aload_1 cx dX6_copyFrom_23 ?_
  refine xr_getI cx dX6_copyFrom_24 fl_X6_23 t1 rfl ?_
  refine xr_putI cx dX6_copyFrom_27 fp_X6_23 s1 rfl ?_
  refine xr_aload_0 cx dX6_copyFrom_30 ?_
  refine xr_aload_1 cx dX6_copyFrom_31 ?_
  refine xr_getI cx dX6_copyFrom_32 fl_X6_31 t1 rfl ?_
  refine xr_putI cx dX6_copyFrom_35 fp_X6_31 s1 rfl ?_
  refine xr_vret cx cz dX6_copyFrom_38 rfl ?_
  refine q_s h ?_
  unfold xcpS
  simp only [su_su, su_same, su_far _ _ hbc (show 3 < 21 by decide) (show 5 < 21 by decide), su_far _ _ hbc (show 3 < 21 by decide) (show 1 < 21 by decide), su_far _ _ hbc (show 5 < 21 by decide) (show 3 < 21 by decide), su_far _ _ hbc (show 5 < 21 by decide) (show 1 < 21 by decide), su_far _ _ hbc (show 1 < 21 by decide) (show 3 < 21 by decide), su_far _ _ hbc (show 1 < 21 by decide) (show 5 < 21 by decide), su_near _ _ _ (show 1 ≠ 3 by decide), su_near _ _ _ (show 1 ≠ 5 by decide), su_far _ _ hbc (show 1 < 21 by decide) (show 1 < 21 by decide)]
theorem m_X3_show {l : Launch} {E : XEnv} {d b : Nat} {σ : XSt} {Q : Int32 → XSt → Prop} {s : Nat} (hL : xLec E b) (hs : s < 30) (h : Q (if bt (σ (b + 13) 3) s = true then 1 else 0) σ) : XMi l E (d + 1) mX3_show [.ref (xad E (b + 13)), .int (nI s)] σ Q := by
  obtain ⟨s0, s1, s2, s3, s4, s5, s6, s7, s8, s9, s10, s11, s12, s13, s14, s15, s16, s17, s18, s19, s20⟩ := id hL
  refine xr_entry (lv := [some (.ref (xad E (b + 13))), some (.int (nI s))]) (by decide +kernel) (by simp [Value.category]) (Nat.le_of_ble_eq_true rfl) rfl (fun w hw cx cz => ?_)
  subst hw
  refine xr_aload_0 cx dX3_show_0 ?_
  refine xr_getI cx dX3_show_1 fl_X3_23 s13 rfl ?_
  refine xr_iload_1 cx dX3_show_4 ?_
  refine xr_N1i (ν := mX8_bitOf) cx dX3_show_5 rfl nl_X3_27 sf_X8_bitOf (Nat.le_of_ble_eq_true rfl) (m_X8_bitOf ?_)
  rw [xbitOf_in hs]
  refine xr_iand cx dX3_show_8 ?_
  refine xr_if_eq (tgt := 16) cx dX3_show_9 (by decide) (fun cq9 => ?_) (fun cq9 => ?_)
  · refine xr_iconst (v := 0) cx dX3_show_16 (by decide) ?_
    refine xr_zret cx cz dX3_show_17 rfl rfl ?_
    first | exact q_i h (if_pos (by cases hq : bt (σ (b + 13) 3) s with | true => rfl | false => exact absurd ((xbit_tst (by omega)).mpr hq) cq9)).symm | exact q_i h (if_neg (by rw [(xbit_tst (by omega)).mp cq9]; decide)).symm
  · refine xr_iconst (v := 1) cx dX3_show_12 (by decide) ?_
    refine xr_goto (tgt := 17) cx dX3_show_13 (by decide) ?_
    refine xr_zret cx cz dX3_show_17 rfl rfl ?_
    first | exact q_i h (if_pos (by cases hq : bt (σ (b + 13) 3) s with | true => rfl | false => exact absurd ((xbit_tst (by omega)).mpr hq) cq9)).symm | exact q_i h (if_neg (by rw [(xbit_tst (by omega)).mp cq9]; decide)).symm
theorem m_X3_take {l : Launch} {E : XEnv} {d b : Nat} {σ : XSt} {Q : XSt → Prop} {t : Nat} {x y : Int32} (hL : xLec E b) (ht : σ (b + 13) 2 = nI t) (ht2 : t < 40) (h : Q (xtake b t x y σ)) : XMv l E (d + 1) mX3_take [.ref (xad E (b + 13)), .int x, .int y] σ Q := by
  obtain ⟨s0, s1, s2, s3, s4, s5, s6, s7, s8, s9, s10, s11, s12, s13, s14, s15, s16, s17, s18, s19, s20⟩ := id hL
  refine xr_entry (lv := [some (.ref (xad E (b + 13))), some (.int x), some (.int y)]) (by decide +kernel) (by simp [Value.category]) (Nat.le_of_ble_eq_true rfl) rfl (fun w hw cx cz => ?_)
  subst hw
  refine xr_aload_0 cx dX3_take_0 ?_
  refine xr_getI cx dX3_take_1 fl_X3_31 s13 rfl ?_
  refine xr_bipush (v := 40) cx dX3_take_4 (by decide) ?_
  rw [ht]
  refine xr_icmp_ge (tgt := 53) cx dX3_take_6 (by decide) (fun cq6 => ?_) (fun cq6 => ?_)
  · exact absurd cq6 (nI_ge (a := t) (b := 40) ht2 (by decide))
  · refine xr_aload_0 cx dX3_take_9 ?_
    refine xr_getR cx dX3_take_10 fl_X3_14 s13 rfl ?_
    refine xr_aload_0 cx dX3_take_13 ?_
    refine xr_getI cx dX3_take_14 fl_X3_31 s13 rfl ?_
    refine xr_iload_1 cx dX3_take_17 ?_
    rw [ht]
    refine xr_V2v (ν := mX5_put) cx dX3_take_18 rfl ml_X3_34 vf_X5_put s14 (Nat.le_of_ble_eq_true rfl) (m_X5_put s14 s15 (by decide) ?_)
    rw [rowPut_in (by omega) (by decide)]
    refine xr_aload_0 cx dX3_take_21 ?_
    refine xr_getR cx dX3_take_22 fl_X3_20 s13 rfl ?_
    refine xr_aload_0 cx dX3_take_25 ?_
    refine xr_getI cx dX3_take_26 fl_X3_31 s13 rfl ?_
    refine xr_iload_2 cx dX3_take_29 ?_
    rw [su_near _ _ _ (show 13 ≠ 15 by decide), ht]
    refine xr_V2v (ν := mX5_put) cx dX3_take_30 rfl ml_X3_34 vf_X5_put s16 (Nat.le_of_ble_eq_true rfl) (m_X5_put s16 s17 (by decide) ?_)
    rw [rowPut_in (by omega) (by decide)]
    refine xr_aload_0 cx dX3_take_33 ?_
    refine xr_dup cx dX3_take_34 rfl ?_
    refine xr_getI cx dX3_take_35 fl_X3_31 s13 rfl ?_
    refine xr_iconst (v := 1) cx dX3_take_38 (by decide) ?_
    refine xr_iadd cx dX3_take_39 ?_
    refine xr_putI cx dX3_take_40 fp_X3_31 s13 rfl ?_
    refine xr_aload_0 cx dX3_take_43 ?_
    refine xr_dup cx dX3_take_44 rfl ?_
    refine xr_getI cx dX3_take_45 fl_X3_23 s13 rfl ?_
    refine xr_iload_2 cx dX3_take_48 ?_
    refine xr_ior cx dX3_take_49 ?_
    refine xr_putI cx dX3_take_50 fp_X3_23 s13 rfl ?_
    refine xr_vret cx cz dX3_take_53 rfl ?_
    refine q_s h ?_
    unfold xtake
    simp only [su_su, su_same, su_near _ _ _ (show 13 ≠ 17 by decide), su_near _ _ _ (show 13 ≠ 15 by decide), su_near _ _ _ (show 17 ≠ 15 by decide), upd_ne _ _ (show 3 ≠ 2 by decide)]
theorem m_X3_copyFrom {l : Launch} {E : XEnv} {d b c : Nat} {σ : XSt} {Q : XSt → Prop} (hL : xLec E b) (hM : xLec E c) (hbc : b + 21 ≤ c ∨ c + 21 ≤ b) (h : Q (xcpP b c σ)) : XMv l E (d + 2) mX3_copyFrom [.ref (xad E (b + 13)), .ref (xad E (c + 13))] σ Q := by
  obtain ⟨s0, s1, s2, s3, s4, s5, s6, s7, s8, s9, s10, s11, s12, s13, s14, s15, s16, s17, s18, s19, s20⟩ := id hL
  obtain ⟨t0, t1, t2, t3, t4, t5, t6, t7, t8, t9, t10, t11, t12, t13, t14, t15, t16, t17, t18, t19, t20⟩ := id hM
  refine xr_entry (lv := [some (.ref (xad E (b + 13))), some (.ref (xad E (c + 13)))]) (by decide +kernel) (by simp [Value.category]) (Nat.le_of_ble_eq_true rfl) rfl (fun w hw cx cz => ?_)
  subst hw
  refine xr_aload_0 cx dX3_copyFrom_0 ?_
  refine xr_getR cx dX3_copyFrom_1 fl_X3_14 s13 rfl ?_
  refine xr_aload_1 cx dX3_copyFrom_4 ?_
  refine xr_getR cx dX3_copyFrom_5 fl_X3_14 t13 rfl ?_
  refine xr_V1v (ν := mX5_copyFrom) cx dX3_copyFrom_8 rfl ml_X3_38 vf_X5_copyFrom s14 (Nat.le_of_ble_eq_true rfl) (m_X5_copyFrom s14 s15 (by decide) t14 t15 ?_)
  refine xr_aload_0 cx dX3_copyFrom_11 ?_
  refine xr_getR cx dX3_copyFrom_12 fl_X3_20 s13 rfl ?_
  refine xr_aload_1 cx dX3_copyFrom_15 ?_
  refine xr_getR cx dX3_copyFrom_16 fl_X3_20 t13 rfl ?_
  refine xr_V1v (ν := mX5_copyFrom) cx dX3_copyFrom_19 rfl ml_X3_38 vf_X5_copyFrom s16 (Nat.le_of_ble_eq_true rfl) (m_X5_copyFrom s16 s17 (by decide) t16 t17 ?_)
  refine xr_aload_0 cx dX3_copyFrom_22 ?_
  refine xr_aload_1 cx dX3_copyFrom_23 ?_
  refine xr_getI cx dX3_copyFrom_24 fl_X3_31 t13 rfl ?_
  refine xr_putI cx dX3_copyFrom_27 fp_X3_31 s13 rfl ?_
  refine xr_aload_0 cx dX3_copyFrom_30 ?_
  refine xr_aload_1 cx dX3_copyFrom_31 ?_
  refine xr_getI cx dX3_copyFrom_32 fl_X3_23 t13 rfl ?_
  refine xr_putI cx dX3_copyFrom_35 fp_X3_23 s13 rfl ?_
  refine xr_vret cx cz dX3_copyFrom_38 rfl ?_
  refine q_s h ?_
  unfold xcpP
  simp only [su_su, su_same, su_far _ _ hbc (show 15 < 21 by decide) (show 17 < 21 by decide), su_far _ _ hbc (show 15 < 21 by decide) (show 13 < 21 by decide), su_far _ _ hbc (show 17 < 21 by decide) (show 15 < 21 by decide), su_far _ _ hbc (show 17 < 21 by decide) (show 13 < 21 by decide), su_far _ _ hbc (show 13 < 21 by decide) (show 15 < 21 by decide), su_far _ _ hbc (show 13 < 21 by decide) (show 17 < 21 by decide), su_near _ _ _ (show 13 ≠ 15 by decide), su_near _ _ _ (show 13 ≠ 17 by decide), su_far _ _ hbc (show 13 < 21 by decide) (show 13 < 21 by decide)]
theorem m_X7_copyFrom {l : Launch} {E : XEnv} {d b c : Nat} {σ : XSt} {Q : XSt → Prop} (hL : xLec E b) (hM : xLec E c) (hbc : b + 21 ≤ c ∨ c + 21 ≤ b) (h : Q (xcpT b c σ)) : XMv l E (d + 2) mX7_copyFrom [.ref (xad E (b + 18)), .ref (xad E (c + 18))] σ Q := by
  obtain ⟨s0, s1, s2, s3, s4, s5, s6, s7, s8, s9, s10, s11, s12, s13, s14, s15, s16, s17, s18, s19, s20⟩ := id hL
  obtain ⟨t0, t1, t2, t3, t4, t5, t6, t7, t8, t9, t10, t11, t12, t13, t14, t15, t16, t17, t18, t19, t20⟩ := id hM
  refine xr_entry (lv := [some (.ref (xad E (b + 18))), some (.ref (xad E (c + 18)))]) (by decide +kernel) (by simp [Value.category]) (Nat.le_of_ble_eq_true rfl) rfl (fun w hw cx cz => ?_)
  subst hw
  refine xr_aload_0 cx dX7_copyFrom_0 ?_
  refine xr_getR cx dX7_copyFrom_1 fl_X7_14 s18 rfl ?_
  refine xr_aload_1 cx dX7_copyFrom_4 ?_
  refine xr_getR cx dX7_copyFrom_5 fl_X7_14 t18 rfl ?_
  refine xr_V1v (ν := mX5_copyFrom) cx dX7_copyFrom_8 rfl ml_X7_20 vf_X5_copyFrom s19 (Nat.le_of_ble_eq_true rfl) (m_X5_copyFrom s19 s20 (by decide) t19 t20 ?_)
  refine xr_aload_0 cx dX7_copyFrom_11 ?_
  refine xr_aload_1 cx dX7_copyFrom_12 ?_
  refine xr_getI cx dX7_copyFrom_13 fl_X7_24 t18 rfl ?_
  refine xr_putI cx dX7_copyFrom_16 fp_X7_24 s18 rfl ?_
  refine xr_aload_0 cx dX7_copyFrom_19 ?_
  refine xr_aload_1 cx dX7_copyFrom_20 ?_
  refine xr_getI cx dX7_copyFrom_21 fl_X7_28 t18 rfl ?_
  refine xr_putI cx dX7_copyFrom_24 fp_X7_28 s18 rfl ?_
  refine xr_aload_0 cx dX7_copyFrom_27 ?_
  refine xr_aload_1 cx dX7_copyFrom_28 ?_
  refine xr_getI cx dX7_copyFrom_29 fl_X7_31 t18 rfl ?_
  refine xr_putI cx dX7_copyFrom_32 fp_X7_31 s18 rfl ?_
  refine xr_aload_0 cx dX7_copyFrom_35 ?_
  refine xr_aload_1 cx dX7_copyFrom_36 ?_
  refine xr_getI cx dX7_copyFrom_37 fl_X7_34 t18 rfl ?_
  refine xr_putI cx dX7_copyFrom_40 fp_X7_34 s18 rfl ?_
  refine xr_aload_0 cx dX7_copyFrom_43 ?_
  refine xr_aload_1 cx dX7_copyFrom_44 ?_
  refine xr_getI cx dX7_copyFrom_45 fl_X7_37 t18 rfl ?_
  refine xr_putI cx dX7_copyFrom_48 fp_X7_37 s18 rfl ?_
  refine xr_aload_0 cx dX7_copyFrom_51 ?_
  refine xr_aload_1 cx dX7_copyFrom_52 ?_
  refine xr_getI cx dX7_copyFrom_53 fl_X7_40 t18 rfl ?_
  refine xr_putI cx dX7_copyFrom_56 fp_X7_40 s18 rfl ?_
  refine xr_vret cx cz dX7_copyFrom_59 rfl ?_
  refine q_s h ?_
  unfold xcpT
  simp only [su_su, su_same, su_far _ _ hbc (show 20 < 21 by decide) (show 18 < 21 by decide), su_far _ _ hbc (show 18 < 21 by decide) (show 20 < 21 by decide), su_near _ _ _ (show 18 ≠ 20 by decide), su_far _ _ hbc (show 18 < 21 by decide) (show 18 < 21 by decide)]
