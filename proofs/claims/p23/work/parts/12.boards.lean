/-- the shapes of a Lecture and all that belongs to it -/
def xLec (E : XEnv) (b : Nat) : Prop := E.2.1[b]? = some (.inl (2, [some (b + 1), some (b + 6), some (b + 13), some (b + 18)])) ∧ E.2.1[b + 1]? = some (.inl (6, [some (b + 2), some (b + 4), none, none])) ∧ E.2.1[b + 2]? = some (.inl (5, [some (b + 3)])) ∧ E.2.1[b + 3]? = some (.inr (.inl (0, 30))) ∧ E.2.1[b + 4]? = some (.inl (5, [some (b + 5)])) ∧ E.2.1[b + 5]? = some (.inr (.inl (0, 30))) ∧ E.2.1[b + 6]? = some (.inl (0, [some (b + 7), some (b + 9), some (b + 11), none, none, none, none])) ∧ E.2.1[b + 7]? = some (.inl (5, [some (b + 8)])) ∧ E.2.1[b + 8]? = some (.inr (.inl (0, 6))) ∧ E.2.1[b + 9]? = some (.inl (5, [some (b + 10)])) ∧ E.2.1[b + 10]? = some (.inr (.inl (0, 6))) ∧ E.2.1[b + 11]? = some (.inl (5, [some (b + 12)])) ∧ E.2.1[b + 12]? = some (.inr (.inl (0, 3))) ∧ E.2.1[b + 13]? = some (.inl (3, [some (b + 14), some (b + 16), none, none])) ∧ E.2.1[b + 14]? = some (.inl (5, [some (b + 15)])) ∧ E.2.1[b + 15]? = some (.inr (.inl (0, 40))) ∧ E.2.1[b + 16]? = some (.inl (5, [some (b + 17)])) ∧ E.2.1[b + 17]? = some (.inr (.inl (0, 40))) ∧ E.2.1[b + 18]? = some (.inl (7, [some (b + 19), none, none, none, none, none, none])) ∧ E.2.1[b + 19]? = some (.inl (5, [some (b + 20)])) ∧ E.2.1[b + 20]? = some (.inr (.inl (0, 30)))
theorem x_shr1 {p : Nat} (h : p < 2 ^ 31) : nI p >>> ((1 : Int32) &&& 31) = nI (p / 2) := by
  have := pk_shrN h ((1 : Int32) &&& 31) 1 (by decide)
  simpa using this
theorem su_near (σ : XSt) (b : Nat) (f : Nat → Int32) {i j : Nat} (h : j ≠ i) : su σ (b + i) f (b + j) = σ (b + j) := su_ne σ f (by omega)
theorem su_far (σ : XSt) {b c : Nat} (f : Nat → Int32) (hb : b + 21 ≤ c ∨ c + 21 ≤ b) {i j : Nat} (hi : i < 21) (hj : j < 21) : su σ (b + i) f (c + j) = σ (c + j) := su_ne σ f (by omega)
def xpn (o : Option Nat) : Int32 := match o with
  | some p => nI p
  | none => -1
def xturn (b c : Nat) (σ : XSt) : XSt := su (su σ (b + 12) (upd (σ (b + 12)) c (σ (b + 12) c ^^^ 1))) (b + 6) (upd (σ (b + 6)) 6 (σ (b + 6) 6 + 1))
def xbring (b p : Nat) (σ : XSt) : XSt := if σ (b + 12) (p / 2) = nI p then σ else xturn b (p / 2) σ
def xclean (b p : Nat) (σ : XSt) : XSt := su (su σ (b + 8) (upd (σ (b + 8)) p 0)) (b + 10) (upd (σ (b + 10)) p (σ (b + 10) p + 1))
def xbear (b p s : Nat) (σ : XSt) : XSt := su σ (b + 8) (upd (σ (b + 8)) p (σ (b + 8) p ||| xbit s))
def xcpB (b c : Nat) (σ : XSt) : XSt := su (su (su (su σ (b + 8) (σ (c + 8))) (b + 10) (σ (c + 10))) (b + 12) (σ (c + 12))) (b + 6) (upd (upd (upd (upd (σ (b + 6)) 3 (σ (c + 6) 3)) 4 (σ (c + 6) 4)) 5 (σ (c + 6) 5)) 6 (σ (c + 6) 6))
theorem m_X0_isInFront {l : Launch} {E : XEnv} {d b : Nat} {σ : XSt} {Q : Int32 → XSt → Prop} {p : Nat} (hL : xLec E b) (hp : p < 6) (h : Q (if σ (b + 12) (p / 2) = nI p then 1 else 0) σ) : XMi l E (d + 1) mX0_isInFront [.ref (xad E (b + 6)), .int (nI p)] σ Q := by
  obtain ⟨s0, s1, s2, s3, s4, s5, s6, s7, s8, s9, s10, s11, s12, s13, s14, s15, s16, s17, s18, s19, s20⟩ := id hL
  refine xr_entry (lv := [some (.ref (xad E (b + 6))), some (.int (nI p))]) (by decide +kernel) (by simp [Value.category]) (Nat.le_of_ble_eq_true rfl) rfl (fun w hw cx cz => ?_)
  subst hw
  refine xr_aload_0 cx dX0_isInFront_0 ?_
  refine xr_getR cx dX0_isInFront_1 fl_X0_23 s6 rfl ?_
  refine xr_iload_1 cx dX0_isInFront_4 ?_
  refine xr_N1i (ν := mX8_columnOf) cx dX0_isInFront_5 rfl nl_X0_34 sf_X8_columnOf (Nat.le_of_ble_eq_true rfl) (m_X8_columnOf ?_)
  rw [x_shr1 (by omega)]
  refine xr_V1i (ν := mX5_at) cx dX0_isInFront_8 rfl ml_X0_38 vf_X5_at s11 (Nat.le_of_ble_eq_true rfl) (m_X5_at s11 s12 (by decide) ?_)
  rw [rowAt_in (by omega) (by decide)]
  refine xr_iload_1 cx dX0_isInFront_11 ?_
  refine xr_icmp_ne (tgt := 19) cx dX0_isInFront_12 (by decide) (fun cq12 => ?_) (fun cq12 => ?_)
  · refine xr_iconst (v := 0) cx dX0_isInFront_19 (by decide) ?_
    refine xr_zret cx cz dX0_isInFront_20 rfl rfl ?_
    first | exact q_i h (if_pos cq12).symm | exact q_i h (if_neg cq12).symm
  · refine xr_iconst (v := 1) cx dX0_isInFront_15 (by decide) ?_
    refine xr_goto (tgt := 20) cx dX0_isInFront_16 (by decide) ?_
    refine xr_zret cx cz dX0_isInFront_20 rfl rfl ?_
    first | exact q_i h (if_pos cq12).symm | exact q_i h (if_neg cq12).symm
theorem m_X0_isPinned {l : Launch} {E : XEnv} {d b : Nat} {σ : XSt} {Q : Int32 → XSt → Prop} {p : Nat} (hL : xLec E b) (hp : p < 6) (h : Q (if bt (σ (b + 6) 3) p = true then 1 else 0) σ) : XMi l E d mX0_isPinned [.ref (xad E (b + 6)), .int (nI p)] σ Q := by
  obtain ⟨s0, s1, s2, s3, s4, s5, s6, s7, s8, s9, s10, s11, s12, s13, s14, s15, s16, s17, s18, s19, s20⟩ := id hL
  refine xr_entry (lv := [some (.ref (xad E (b + 6))), some (.int (nI p))]) (by decide +kernel) (by simp [Value.category]) (Nat.le_of_ble_eq_true rfl) rfl (fun w hw cx cz => ?_)
  subst hw
  refine xr_aload_0 cx dX0_isPinned_0 ?_
  refine xr_getI cx dX0_isPinned_1 fl_X0_41 s6 rfl ?_
  refine xr_iload_1 cx dX0_isPinned_4 ?_
  refine xr_ishr cx dX0_isPinned_5 ?_
  refine xr_iconst (v := 1) cx dX0_isPinned_6 (by decide) ?_
  refine xr_iand cx dX0_isPinned_7 ?_
  refine xr_iconst (v := 1) cx dX0_isPinned_8 (by decide) ?_
  refine xr_icmp_ne (tgt := 16) cx dX0_isPinned_9 (by decide) (fun cq9 => ?_) (fun cq9 => ?_)
  · refine xr_iconst (v := 0) cx dX0_isPinned_16 (by decide) ?_
    refine xr_zret cx cz dX0_isPinned_17 rfl rfl ?_
    first | exact q_i h (if_pos ((b_shr1T (by omega)).mp cq9)).symm | exact q_i h (if_neg (fun q => cq9 ((b_shr1T (by omega)).mpr q))).symm
  · refine xr_iconst (v := 1) cx dX0_isPinned_12 (by decide) ?_
    refine xr_goto (tgt := 17) cx dX0_isPinned_13 (by decide) ?_
    refine xr_zret cx cz dX0_isPinned_17 rfl rfl ?_
    first | exact q_i h (if_pos ((b_shr1T (by omega)).mp cq9)).symm | exact q_i h (if_neg (fun q => cq9 ((b_shr1T (by omega)).mpr q))).symm
theorem m_X0_turn {l : Launch} {E : XEnv} {d b : Nat} {σ : XSt} {Q : XSt → Prop} {c : Nat} (hL : xLec E b) (hc : c < 3) (h : Q (xturn b c σ)) : XMv l E (d + 1) mX0_turn [.ref (xad E (b + 6)), .int (nI c)] σ Q := by
  obtain ⟨s0, s1, s2, s3, s4, s5, s6, s7, s8, s9, s10, s11, s12, s13, s14, s15, s16, s17, s18, s19, s20⟩ := id hL
  refine xr_entry (lv := [some (.ref (xad E (b + 6))), some (.int (nI c))]) (by decide +kernel) (by simp [Value.category]) (Nat.le_of_ble_eq_true rfl) rfl (fun w hw cx cz => ?_)
  subst hw
  refine xr_aload_0 cx dX0_turn_0 ?_
  refine xr_getR cx dX0_turn_1 fl_X0_23 s6 rfl ?_
  refine xr_iload_1 cx dX0_turn_4 ?_
  refine xr_aload_0 cx dX0_turn_5 ?_
  refine xr_getR cx dX0_turn_6 fl_X0_23 s6 rfl ?_
  refine xr_iload_1 cx dX0_turn_9 ?_
  refine xr_V1i (ν := mX5_at) cx dX0_turn_10 rfl ml_X0_38 vf_X5_at s11 (Nat.le_of_ble_eq_true rfl) (m_X5_at s11 s12 (by decide) ?_)
  rw [rowAt_in (by omega) (by decide)]
  refine xr_iconst (v := 1) cx dX0_turn_13 (by decide) ?_
  refine xr_ixor cx dX0_turn_14 ?_
  refine xr_V2v (ν := mX5_put) cx dX0_turn_15 rfl ml_X0_30 vf_X5_put s11 (Nat.le_of_ble_eq_true rfl) (m_X5_put s11 s12 (by decide) ?_)
  refine xr_aload_0 cx dX0_turn_18 ?_
  refine xr_dup cx dX0_turn_19 rfl ?_
  refine xr_getI cx dX0_turn_20 fl_X0_44 s6 rfl ?_
  refine xr_iconst (v := 1) cx dX0_turn_23 (by decide) ?_
  refine xr_iadd cx dX0_turn_24 ?_
  refine xr_putI cx dX0_turn_25 fp_X0_44 s6 rfl ?_
  refine xr_vret cx cz dX0_turn_28 rfl ?_
  exact q_s h (by unfold xturn; rw [rowPut_in (by omega) (by decide), su_near σ b _ (by decide)])
theorem m_X0_bringToFront {l : Launch} {E : XEnv} {d b : Nat} {σ : XSt} {Q : XSt → Prop} {p : Nat} (hL : xLec E b) (hp : p < 6) (h : Q (xbring b p σ)) : XMv l E (d + 2) mX0_bringToFront [.ref (xad E (b + 6)), .int (nI p)] σ Q := by
  obtain ⟨s0, s1, s2, s3, s4, s5, s6, s7, s8, s9, s10, s11, s12, s13, s14, s15, s16, s17, s18, s19, s20⟩ := id hL
  refine xr_entry (lv := [some (.ref (xad E (b + 6))), some (.int (nI p))]) (by decide +kernel) (by simp [Value.category]) (Nat.le_of_ble_eq_true rfl) rfl (fun w hw cx cz => ?_)
  subst hw
  refine xr_aload_0 cx dX0_bringToFront_0 ?_
  refine xr_iload_1 cx dX0_bringToFront_1 ?_
  refine xr_V1i (ν := mX0_isInFront) cx dX0_bringToFront_2 rfl ml_X0_47 vf_X0_isInFront s6 (Nat.le_of_ble_eq_true rfl) (m_X0_isInFront hL hp ?_)
  refine xr_if_ne (tgt := 16) cx dX0_bringToFront_5 (by decide) (fun cq5 => ?_) (fun cq5 => ?_)
  · refine xr_vret cx cz dX0_bringToFront_16 rfl ?_
    first | exact q_s h (if_pos (by by_cases q : σ (b + 12) (p / 2) = nI p; exact q; rw [if_neg q] at cq5; exact absurd rfl cq5)).symm | exact q_s h (if_neg (by intro q; rw [if_pos q] at cq5; exact absurd cq5 (by decide))).symm
  · refine xr_aload_0 cx dX0_bringToFront_8 ?_
    refine xr_iload_1 cx dX0_bringToFront_9 ?_
    refine xr_N1i (ν := mX8_columnOf) cx dX0_bringToFront_10 rfl nl_X0_34 sf_X8_columnOf (Nat.le_of_ble_eq_true rfl) (m_X8_columnOf ?_)
    rw [x_shr1 (by omega)]
    refine xr_V1v (ν := mX0_turn) cx dX0_bringToFront_13 rfl ml_X0_51 vf_X0_turn s6 (Nat.le_of_ble_eq_true rfl) (m_X0_turn hL (by omega) ?_)
    refine xr_vret cx cz dX0_bringToFront_16 rfl ?_
    first | exact q_s h (if_pos (by by_cases q : σ (b + 12) (p / 2) = nI p; exact q; rw [if_neg q] at cq5; exact absurd rfl cq5)).symm | exact q_s h (if_neg (by intro q; rw [if_pos q] at cq5; exact absurd cq5 (by decide))).symm
theorem m_X0_clean {l : Launch} {E : XEnv} {d b : Nat} {σ : XSt} {Q : XSt → Prop} {p : Nat} (hL : xLec E b) (hp : p < 6) (h : Q (xclean b p σ)) : XMv l E (d + 2) mX0_clean [.ref (xad E (b + 6)), .int (nI p)] σ Q := by
  obtain ⟨s0, s1, s2, s3, s4, s5, s6, s7, s8, s9, s10, s11, s12, s13, s14, s15, s16, s17, s18, s19, s20⟩ := id hL
  refine xr_entry (lv := [some (.ref (xad E (b + 6))), some (.int (nI p))]) (by decide +kernel) (by simp [Value.category]) (Nat.le_of_ble_eq_true rfl) rfl (fun w hw cx cz => ?_)
  subst hw
  refine xr_aload_0 cx dX0_clean_0 ?_
  refine xr_getR cx dX0_clean_1 fl_X0_14 s6 rfl ?_
  refine xr_iload_1 cx dX0_clean_4 ?_
  refine xr_iconst (v := 0) cx dX0_clean_5 (by decide) ?_
  refine xr_V2v (ν := mX5_put) cx dX0_clean_6 rfl ml_X0_30 vf_X5_put s7 (Nat.le_of_ble_eq_true rfl) (m_X5_put s7 s8 (by decide) ?_)
  refine xr_aload_0 cx dX0_clean_9 ?_
  refine xr_getR cx dX0_clean_10 fl_X0_20 s6 rfl ?_
  refine xr_iload_1 cx dX0_clean_13 ?_
  refine xr_V1v (ν := mX5_raise) cx dX0_clean_14 rfl ml_X0_54 vf_X5_raise s9 (Nat.le_of_ble_eq_true rfl) (m_X5_raise s9 s10 (by decide) ?_)
  refine xr_vret cx cz dX0_clean_17 rfl ?_
  exact q_s h (by unfold xclean; rw [rowPut_in (by omega) (by decide), rowPut_in (by omega) (by decide), rowAt_in (by omega) (by decide), su_near σ b _ (by decide)])
theorem m_X0_bear {l : Launch} {E : XEnv} {d b : Nat} {σ : XSt} {Q : XSt → Prop} {p s : Nat} (hL : xLec E b) (hp : p < 6) (hs : s < 30) (h : Q (xbear b p s σ)) : XMv l E (d + 1) mX0_bear [.ref (xad E (b + 6)), .int (nI p), .int (nI s)] σ Q := by
  obtain ⟨s0, s1, s2, s3, s4, s5, s6, s7, s8, s9, s10, s11, s12, s13, s14, s15, s16, s17, s18, s19, s20⟩ := id hL
  refine xr_entry (lv := [some (.ref (xad E (b + 6))), some (.int (nI p)), some (.int (nI s))]) (by decide +kernel) (by simp [Value.category]) (Nat.le_of_ble_eq_true rfl) rfl (fun w hw cx cz => ?_)
  subst hw
  refine xr_aload_0 cx dX0_bear_0 ?_
  refine xr_getR cx dX0_bear_1 fl_X0_14 s6 rfl ?_
  refine xr_iload_1 cx dX0_bear_4 ?_
  refine xr_aload_0 cx dX0_bear_5 ?_
  refine xr_getR cx dX0_bear_6 fl_X0_14 s6 rfl ?_
  refine xr_iload_1 cx dX0_bear_9 ?_
  refine xr_V1i (ν := mX5_at) cx dX0_bear_10 rfl ml_X0_38 vf_X5_at s7 (Nat.le_of_ble_eq_true rfl) (m_X5_at s7 s8 (by decide) ?_)
  rw [rowAt_in (by omega) (by decide)]
  refine xr_iload_2 cx dX0_bear_13 ?_
  refine xr_N1i (ν := mX8_bitOf) cx dX0_bear_14 rfl nl_X0_57 sf_X8_bitOf (Nat.le_of_ble_eq_true rfl) (m_X8_bitOf ?_)
  rw [xbitOf_in hs]
  refine xr_ior cx dX0_bear_17 ?_
  refine xr_V2v (ν := mX5_put) cx dX0_bear_18 rfl ml_X0_30 vf_X5_put s7 (Nat.le_of_ble_eq_true rfl) (m_X5_put s7 s8 (by decide) ?_)
  refine xr_vret cx cz dX0_bear_21 rfl ?_
  exact q_s h (by unfold xbear; rw [rowPut_in (by omega) (by decide)])
theorem lp_X0_panelWith {E : XEnv} {d b : Nat} {σ : XSt} {Q : Int32 → XSt → Prop} {w : XO} {s : Nat} (hL : xLec E b) (hs : s < 30) (cx : CX (d + 1) w E mX0_panelWith) (cz : CZi w E Q) : ∀ n i, i + n = 6 → Q (xpn (xfst (fun p => bt (σ (b + 8) p) s) n i)) σ → XG w E 2 [some (.ref (xad E (b + 6))), some (.int (nI s)), some (.int (nI i))] [] σ := by
  obtain ⟨s0, s1, s2, s3, s4, s5, s6, s7, s8, s9, s10, s11, s12, s13, s14, s15, s16, s17, s18, s19, s20⟩ := id hL
  intro n
  induction n with
  | zero =>
    intro i hi h
    obtain rfl : i = 6 := by omega
    refine xr_iload_2 cx dX0_panelWith_2 ?_
    refine xr_bipush (v := 6) cx dX0_panelWith_3 (by decide) ?_
    refine xr_icmp_ge (tgt := 32) cx dX0_panelWith_5 (by decide) (fun cq5 => ?_) (fun cq5 => ?_)
    · refine xr_iconst (v := -1) cx dX0_panelWith_32 (by decide) ?_
      refine xr_iret cx cz dX0_panelWith_33 rfl ?_
      exact h
    · exact absurd (nI_le (a := 6) (b := 6) (by decide) (by decide)) cq5
  | succ n ih =>
    intro i hi h
    refine xr_iload_2 cx dX0_panelWith_2 ?_
    refine xr_bipush (v := 6) cx dX0_panelWith_3 (by decide) ?_
    refine xr_icmp_ge (tgt := 32) cx dX0_panelWith_5 (by decide) (fun cq5 => ?_) (fun cq5 => ?_)
    · exact absurd cq5 (nI_ge (a := i) (b := 6) (by omega) (by decide))
    · refine xr_aload_0 cx dX0_panelWith_8 ?_
      refine xr_getR cx dX0_panelWith_9 fl_X0_14 s6 rfl ?_
      refine xr_iload_2 cx dX0_panelWith_12 ?_
      refine xr_V1i (ν := mX5_at) cx dX0_panelWith_13 rfl ml_X0_38 vf_X5_at s7 (Nat.le_of_ble_eq_true rfl) (m_X5_at s7 s8 (by decide) ?_)
      rw [rowAt_in (by omega) (by decide)]
      refine xr_iload_1 cx dX0_panelWith_16 ?_
      refine xr_N1i (ν := mX8_bitOf) cx dX0_panelWith_17 rfl nl_X0_57 sf_X8_bitOf (Nat.le_of_ble_eq_true rfl) (m_X8_bitOf ?_)
      rw [xbitOf_in hs]
      refine xr_iand cx dX0_panelWith_20 ?_
      refine xr_if_eq (tgt := 26) cx dX0_panelWith_21 (by decide) (fun cq21 => ?_) (fun cq21 => ?_)
      · have hb : bt (σ (b + 8) i) s = false := (xbit_tst (by omega)).mp cq21
        rw [xfst, if_neg (by rw [hb]; decide)] at h
        refine xr_iinc_2 (y := 1) cx dX0_panelWith_26 (by decide) ?_
        refine xr_goto (tgt := 2) cx dX0_panelWith_29 (by decide) ?_
        rw [nI_1]
        exact ih (i + 1) (by omega) h
      · refine xr_iload_2 cx dX0_panelWith_24 ?_
        have hb : bt (σ (b + 8) i) s = true := by cases hq : bt (σ (b + 8) i) s with | true => rfl | false => exact absurd ((xbit_tst (by omega)).mpr hq) cq21
        rw [xfst, if_pos hb] at h
        refine xr_iret cx cz dX0_panelWith_25 rfl ?_
        exact h
theorem m_X0_panelWith {l : Launch} {E : XEnv} {d b : Nat} {σ : XSt} {Q : Int32 → XSt → Prop} {s : Nat} (hL : xLec E b) (hs : s < 30) (h : Q (xpn (xfst (fun p => bt (σ (b + 8) p) s) 6 0)) σ) : XMi l E (d + 1) mX0_panelWith [.ref (xad E (b + 6)), .int (nI s)] σ Q := by
  obtain ⟨s0, s1, s2, s3, s4, s5, s6, s7, s8, s9, s10, s11, s12, s13, s14, s15, s16, s17, s18, s19, s20⟩ := id hL
  refine xr_entry (lv := [some (.ref (xad E (b + 6))), some (.int (nI s)), none]) (by decide +kernel) (by simp [Value.category]) (Nat.le_of_ble_eq_true rfl) rfl (fun w hw cx cz => ?_)
  subst hw
  refine xr_iconst (v := 0) cx dX0_panelWith_0 (by decide) ?_
  refine xr_istore_2 cx dX0_panelWith_1 ?_
  exact lp_X0_panelWith hL hs cx cz 6 0 rfl h
theorem lp_X0_nextToUse {E : XEnv} {d b : Nat} {σ : XSt} {Q : Int32 → XSt → Prop} {w : XO} {u : Nat} (hL : xLec E b) (hu : σ (b + 6) 4 = nI u) (hu6 : u < 6) (cx : CX (d + 1) w E mX0_nextToUse) (cz : CZi w E Q) : ∀ n i (x2 : Option Value), i + n = 6 → Q (xpn ((xfst (fun k => !bt (σ (b + 6) 3) ((u + k) % 6)) n i).map (fun k => (u + k) % 6))) σ → XG w E 2 [some (.ref (xad E (b + 6))), some (.int (nI i)), x2] [] σ := by
  obtain ⟨s0, s1, s2, s3, s4, s5, s6, s7, s8, s9, s10, s11, s12, s13, s14, s15, s16, s17, s18, s19, s20⟩ := id hL
  intro n
  induction n with
  | zero =>
    intro i x2 hi h
    obtain rfl : i = 6 := by omega
    refine xr_iload_1 cx dX0_nextToUse_2 ?_
    refine xr_bipush (v := 6) cx dX0_nextToUse_3 (by decide) ?_
    refine xr_icmp_ge (tgt := 34) cx dX0_nextToUse_5 (by decide) (fun cq5 => ?_) (fun cq5 => ?_)
    · refine xr_iconst (v := -1) cx dX0_nextToUse_34 (by decide) ?_
      refine xr_iret cx cz dX0_nextToUse_35 rfl ?_
      exact h
    · exact absurd (nI_le (a := 6) (b := 6) (by decide) (by decide)) cq5
  | succ n ih =>
    intro i x2 hi h
    refine xr_iload_1 cx dX0_nextToUse_2 ?_
    refine xr_bipush (v := 6) cx dX0_nextToUse_3 (by decide) ?_
    refine xr_icmp_ge (tgt := 34) cx dX0_nextToUse_5 (by decide) (fun cq5 => ?_) (fun cq5 => ?_)
    · exact absurd cq5 (nI_ge (a := i) (b := 6) (by omega) (by decide))
    · refine xr_aload_0 cx dX0_nextToUse_8 ?_
      refine xr_getI cx dX0_nextToUse_9 fl_X0_60 s6 rfl ?_
      refine xr_iload_1 cx dX0_nextToUse_12 ?_
      refine xr_iadd cx dX0_nextToUse_13 ?_
      rw [hu, nI_add]
      refine xr_bipush (v := 6) cx dX0_nextToUse_14 (by decide) ?_
      refine xr_irem cx dX0_nextToUse_16 (by decide) ?_
      rw [show nI (u + i) - nI (u + i) / 6 * 6 = nI ((u + i) % 6) from pk_rem (d := 6) (by omega) (by decide) (by decide)]
      refine xr_istore_2 cx dX0_nextToUse_17 ?_
      refine xr_aload_0 cx dX0_nextToUse_18 ?_
      refine xr_iload_2 cx dX0_nextToUse_19 ?_
      refine xr_V1i (ν := mX0_isPinned) cx dX0_nextToUse_20 rfl ml_X0_63 vf_X0_isPinned s6 (Nat.le_of_ble_eq_true rfl) (m_X0_isPinned hL (Nat.mod_lt _ (by decide)) ?_)
      refine xr_if_ne (tgt := 28) cx dX0_nextToUse_23 (by decide) (fun cq23 => ?_) (fun cq23 => ?_)
      · have hb : bt (σ (b + 6) 3) ((u + i) % 6) = true := by cases hq : bt (σ (b + 6) 3) ((u + i) % 6) with | true => rfl | false => rw [hq] at cq23; exact absurd rfl cq23
        rw [xfst, if_neg (by rw [hb]; decide)] at h
        refine xr_iinc_1 (y := 1) cx dX0_nextToUse_28 (by decide) ?_
        refine xr_goto (tgt := 2) cx dX0_nextToUse_31 (by decide) ?_
        rw [nI_1]
        exact ih (i + 1) _ (by omega) h
      · refine xr_iload_2 cx dX0_nextToUse_26 ?_
        have hb : bt (σ (b + 6) 3) ((u + i) % 6) = false := by cases hq : bt (σ (b + 6) 3) ((u + i) % 6) with | false => rfl | true => rw [hq] at cq23; exact absurd cq23 (by decide)
        rw [xfst, if_pos (by rw [hb]; rfl)] at h
        refine xr_iret cx cz dX0_nextToUse_27 rfl ?_
        exact h
theorem m_X0_nextToUse {l : Launch} {E : XEnv} {d b : Nat} {σ : XSt} {Q : Int32 → XSt → Prop} {u : Nat} (hL : xLec E b) (hu : σ (b + 6) 4 = nI u) (hu6 : u < 6) (h : Q (xpn ((xfst (fun k => !bt (σ (b + 6) 3) ((u + k) % 6)) 5 1).map (fun k => (u + k) % 6))) σ) : XMi l E (d + 1) mX0_nextToUse [.ref (xad E (b + 6))] σ Q := by
  obtain ⟨s0, s1, s2, s3, s4, s5, s6, s7, s8, s9, s10, s11, s12, s13, s14, s15, s16, s17, s18, s19, s20⟩ := id hL
  refine xr_entry (lv := [some (.ref (xad E (b + 6))), none, none]) (by decide +kernel) (by simp [Value.category]) (Nat.le_of_ble_eq_true rfl) rfl (fun w hw cx cz => ?_)
  subst hw
  refine xr_iconst (v := 1) cx dX0_nextToUse_0 (by decide) ?_
  refine xr_istore_1 cx dX0_nextToUse_1 ?_
  exact lp_X0_nextToUse hL hu hu6 cx cz 5 1 none rfl h
theorem lp_X0_allWipes {E : XEnv} {d b : Nat} {σ : XSt} {Q : Int32 → XSt → Prop} {w : XO} (hL : xLec E b) (cx : CX (d + 1) w E mX0_allWipes) (cz : CZi w E Q) : ∀ n i (x : Int32), i + n = 6 → Q (xit (fun p acc => acc + σ (b + 10) p) n i x) σ → XG w E 4 [some (.ref (xad E (b + 6))), some (.int x), some (.int (nI i))] [] σ := by
  obtain ⟨s0, s1, s2, s3, s4, s5, s6, s7, s8, s9, s10, s11, s12, s13, s14, s15, s16, s17, s18, s19, s20⟩ := id hL
  intro n
  induction n with
  | zero =>
    intro i x hi h
    obtain rfl : i = 6 := by omega
    refine xr_iload_2 cx dX0_allWipes_4 ?_
    refine xr_bipush (v := 6) cx dX0_allWipes_5 (by decide) ?_
    refine xr_icmp_ge (tgt := 27) cx dX0_allWipes_7 (by decide) (fun cq7 => ?_) (fun cq7 => ?_)
    · refine xr_iload_1 cx dX0_allWipes_27 ?_
      refine xr_iret cx cz dX0_allWipes_28 rfl ?_
      exact h
    · exact absurd (nI_le (a := 6) (b := 6) (by decide) (by decide)) cq7
  | succ n ih =>
    intro i x hi h
    refine xr_iload_2 cx dX0_allWipes_4 ?_
    refine xr_bipush (v := 6) cx dX0_allWipes_5 (by decide) ?_
    refine xr_icmp_ge (tgt := 27) cx dX0_allWipes_7 (by decide) (fun cq7 => ?_) (fun cq7 => ?_)
    · exact absurd cq7 (nI_ge (a := i) (b := 6) (by omega) (by decide))
    · refine xr_iload_1 cx dX0_allWipes_10 ?_
      refine xr_aload_0 cx dX0_allWipes_11 ?_
      refine xr_getR cx dX0_allWipes_12 fl_X0_20 s6 rfl ?_
      refine xr_iload_2 cx dX0_allWipes_15 ?_
      refine xr_V1i (ν := mX5_at) cx dX0_allWipes_16 rfl ml_X0_38 vf_X5_at s9 (Nat.le_of_ble_eq_true rfl) (m_X5_at s9 s10 (by decide) ?_)
      rw [rowAt_in (by omega) (by decide)]
      refine xr_iadd cx dX0_allWipes_19 ?_
      refine xr_istore_1 cx dX0_allWipes_20 ?_
      refine xr_iinc_2 (y := 1) cx dX0_allWipes_21 (by decide) ?_
      refine xr_goto (tgt := 4) cx dX0_allWipes_24 (by decide) ?_
      rw [nI_1]
      exact ih (i + 1) _ (by omega) h
theorem m_X0_allWipes {l : Launch} {E : XEnv} {d b : Nat} {σ : XSt} {Q : Int32 → XSt → Prop} (hL : xLec E b) (h : Q (xit (fun p acc => acc + σ (b + 10) p) 6 0 0) σ) : XMi l E (d + 1) mX0_allWipes [.ref (xad E (b + 6))] σ Q := by
  obtain ⟨s0, s1, s2, s3, s4, s5, s6, s7, s8, s9, s10, s11, s12, s13, s14, s15, s16, s17, s18, s19, s20⟩ := id hL
  refine xr_entry (lv := [some (.ref (xad E (b + 6))), none, none]) (by decide +kernel) (by simp [Value.category]) (Nat.le_of_ble_eq_true rfl) rfl (fun w hw cx cz => ?_)
  subst hw
  refine xr_iconst (v := 0) cx dX0_allWipes_0 (by decide) ?_
  refine xr_istore_1 cx dX0_allWipes_1 ?_
  refine xr_iconst (v := 0) cx dX0_allWipes_2 (by decide) ?_
  refine xr_istore_2 cx dX0_allWipes_3 ?_
  exact lp_X0_allWipes hL cx cz 6 0 0 rfl h
theorem lp_X0_allSteps {E : XEnv} {d b : Nat} {σ : XSt} {Q : Int32 → XSt → Prop} {w : XO} (hL : xLec E b) (cx : CX (d + 1) w E mX0_allSteps) (cz : CZi w E Q) : ∀ n i (x : Int32), i + n = 6 → Q (xit (fun p acc => acc ||| σ (b + 8) p) n i x) σ → XG w E 4 [some (.ref (xad E (b + 6))), some (.int x), some (.int (nI i))] [] σ := by
  obtain ⟨s0, s1, s2, s3, s4, s5, s6, s7, s8, s9, s10, s11, s12, s13, s14, s15, s16, s17, s18, s19, s20⟩ := id hL
  intro n
  induction n with
  | zero =>
    intro i x hi h
    obtain rfl : i = 6 := by omega
    refine xr_iload_2 cx dX0_allSteps_4 ?_
    refine xr_bipush (v := 6) cx dX0_allSteps_5 (by decide) ?_
    refine xr_icmp_ge (tgt := 27) cx dX0_allSteps_7 (by decide) (fun cq7 => ?_) (fun cq7 => ?_)
    · refine xr_iload_1 cx dX0_allSteps_27 ?_
      refine xr_iret cx cz dX0_allSteps_28 rfl ?_
      exact h
    · exact absurd (nI_le (a := 6) (b := 6) (by decide) (by decide)) cq7
  | succ n ih =>
    intro i x hi h
    refine xr_iload_2 cx dX0_allSteps_4 ?_
    refine xr_bipush (v := 6) cx dX0_allSteps_5 (by decide) ?_
    refine xr_icmp_ge (tgt := 27) cx dX0_allSteps_7 (by decide) (fun cq7 => ?_) (fun cq7 => ?_)
    · exact absurd cq7 (nI_ge (a := i) (b := 6) (by omega) (by decide))
    · refine xr_iload_1 cx dX0_allSteps_10 ?_
      refine xr_aload_0 cx dX0_allSteps_11 ?_
      refine xr_getR cx dX0_allSteps_12 fl_X0_14 s6 rfl ?_
      refine xr_iload_2 cx dX0_allSteps_15 ?_
      refine xr_V1i (ν := mX5_at) cx dX0_allSteps_16 rfl ml_X0_38 vf_X5_at s7 (Nat.le_of_ble_eq_true rfl) (m_X5_at s7 s8 (by decide) ?_)
      rw [rowAt_in (by omega) (by decide)]
      refine xr_ior cx dX0_allSteps_19 ?_
      refine xr_istore_1 cx dX0_allSteps_20 ?_
      refine xr_iinc_2 (y := 1) cx dX0_allSteps_21 (by decide) ?_
      refine xr_goto (tgt := 4) cx dX0_allSteps_24 (by decide) ?_
      rw [nI_1]
      exact ih (i + 1) _ (by omega) h
theorem m_X0_allSteps {l : Launch} {E : XEnv} {d b : Nat} {σ : XSt} {Q : Int32 → XSt → Prop} (hL : xLec E b) (h : Q (xit (fun p acc => acc ||| σ (b + 8) p) 6 0 0) σ) : XMi l E (d + 1) mX0_allSteps [.ref (xad E (b + 6))] σ Q := by
  obtain ⟨s0, s1, s2, s3, s4, s5, s6, s7, s8, s9, s10, s11, s12, s13, s14, s15, s16, s17, s18, s19, s20⟩ := id hL
  refine xr_entry (lv := [some (.ref (xad E (b + 6))), none, none]) (by decide +kernel) (by simp [Value.category]) (Nat.le_of_ble_eq_true rfl) rfl (fun w hw cx cz => ?_)
  subst hw
  refine xr_iconst (v := 0) cx dX0_allSteps_0 (by decide) ?_
  refine xr_istore_1 cx dX0_allSteps_1 ?_
  refine xr_iconst (v := 0) cx dX0_allSteps_2 (by decide) ?_
  refine xr_istore_2 cx dX0_allSteps_3 ?_
  exact lp_X0_allSteps hL cx cz 6 0 0 rfl h
theorem m_X0_copyFrom {l : Launch} {E : XEnv} {d b c : Nat} {σ : XSt} {Q : XSt → Prop} (hL : xLec E b) (hM : xLec E c) (hbc : b + 21 ≤ c ∨ c + 21 ≤ b) (h : Q (xcpB b c σ)) : XMv l E (d + 2) mX0_copyFrom [.ref (xad E (b + 6)), .ref (xad E (c + 6))] σ Q := by
  obtain ⟨s0, s1, s2, s3, s4, s5, s6, s7, s8, s9, s10, s11, s12, s13, s14, s15, s16, s17, s18, s19, s20⟩ := id hL
  obtain ⟨t0, t1, t2, t3, t4, t5, t6, t7, t8, t9, t10, t11, t12, t13, t14, t15, t16, t17, t18, t19, t20⟩ := id hM
  refine xr_entry (lv := [some (.ref (xad E (b + 6))), some (.ref (xad E (c + 6)))]) (by decide +kernel) (by simp [Value.category]) (Nat.le_of_ble_eq_true rfl) rfl (fun w hw cx cz => ?_)
  subst hw
  refine xr_aload_0 cx dX0_copyFrom_0 ?_
  refine xr_getR cx dX0_copyFrom_1 fl_X0_14 s6 rfl ?_
  refine xr_aload_1 cx dX0_copyFrom_4 ?_
  refine xr_getR cx dX0_copyFrom_5 fl_X0_14 t6 rfl ?_
  refine xr_V1v (ν := mX5_copyFrom) cx dX0_copyFrom_8 rfl ml_X0_66 vf_X5_copyFrom s7 (Nat.le_of_ble_eq_true rfl) (m_X5_copyFrom s7 s8 (by decide) t7 t8 ?_)
  refine xr_aload_0 cx dX0_copyFrom_11 ?_
  refine xr_getR cx dX0_copyFrom_12 fl_X0_20 s6 rfl ?_
  refine xr_aload_1 cx dX0_copyFrom_15 ?_
  refine xr_getR cx dX0_copyFrom_16 fl_X0_20 t6 rfl ?_
  refine xr_V1v (ν := mX5_copyFrom) cx dX0_copyFrom_19 rfl ml_X0_66 vf_X5_copyFrom s9 (Nat.le_of_ble_eq_true rfl) (m_X5_copyFrom s9 s10 (by decide) t9 t10 ?_)
  refine xr_aload_0 cx dX0_copyFrom_22 ?_
  refine xr_getR cx dX0_copyFrom_23 fl_X0_23 s6 rfl ?_
  refine xr_aload_1 cx dX0_copyFrom_26 ?_
  refine xr_getR cx dX0_copyFrom_27 fl_X0_23 t6 rfl ?_
  refine xr_V1v (ν := mX5_copyFrom) cx dX0_copyFrom_30 rfl ml_X0_66 vf_X5_copyFrom s11 (Nat.le_of_ble_eq_true rfl) (m_X5_copyFrom s11 s12 (by decide) t11 t12 ?_)
  refine xr_aload_0 cx dX0_copyFrom_33 ?_
  refine xr_aload_1 cx dX0_copyFrom_34 ?_
  refine xr_getI cx dX0_copyFrom_35 fl_X0_41 t6 rfl ?_
  refine xr_putI cx dX0_copyFrom_38 fp_X0_41 s6 rfl ?_
  refine xr_aload_0 cx dX0_copyFrom_41 ?_
  refine xr_aload_1 cx dX0_copyFrom_42 ?_
  refine xr_getI cx dX0_copyFrom_43 fl_X0_60 t6 rfl ?_
  refine xr_putI cx dX0_copyFrom_46 fp_X0_60 s6 rfl ?_
  refine xr_aload_0 cx dX0_copyFrom_49 ?_
  refine xr_aload_1 cx dX0_copyFrom_50 ?_
  refine xr_getI cx dX0_copyFrom_51 fl_X0_26 t6 rfl ?_
  refine xr_putI cx dX0_copyFrom_54 fp_X0_26 s6 rfl ?_
  refine xr_aload_0 cx dX0_copyFrom_57 ?_
  refine xr_aload_1 cx dX0_copyFrom_58 ?_
  refine xr_getI cx dX0_copyFrom_59 fl_X0_44 t6 rfl ?_
  refine xr_putI cx dX0_copyFrom_62 fp_X0_44 s6 rfl ?_
  refine xr_vret cx cz dX0_copyFrom_65 rfl ?_
  refine q_s h ?_
  unfold xcpB
  simp only [su_su, su_same, su_near _ _ _ (show 6 ≠ 8 by decide), su_near _ _ _ (show 6 ≠ 10 by decide), su_near _ _ _ (show 6 ≠ 12 by decide), su_far _ _ hbc (show 6 < 21 by decide) (show 6 < 21 by decide), su_far _ _ hbc (show 8 < 21 by decide) (show 6 < 21 by decide), su_far _ _ hbc (show 10 < 21 by decide) (show 6 < 21 by decide), su_far _ _ hbc (show 12 < 21 by decide) (show 6 < 21 by decide), su_far _ _ hbc (show 8 < 21 by decide) (show 10 < 21 by decide), su_far _ _ hbc (show 8 < 21 by decide) (show 12 < 21 by decide), su_far _ _ hbc (show 10 < 21 by decide) (show 12 < 21 by decide)]
