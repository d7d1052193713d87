theorem m_L_isForeseen {l : Launch} {E : XEnv} {d : Nat} {σ : XSt} {a : Nat → Int32} {hl : List (Nat → Int32)} {Q : Int32 → XSt → Prop} (hG : xGl E) (hS : zLS σ a hl) (h : ∀ τ, zLI τ → Q 1 τ) : XMi l E (d + 7) mL_isForeseen [.ref (xad E 0)] σ Q := by
  obtain ⟨g8, g72, g73, g158, g159, g160, g161, g162, g163, L9, L30, L51, L74, L95, L116, L137⟩ := id hG
  have hI := hS.1.2.1
  have hz := hS.2.2.1
  obtain ⟨b1, b2, b3, b4⟩ := xIx_b hI.1
  obtain ⟨ix1, ix2, ix3, ix4, -⟩ := id hI.1
  obtain ⟨W, D, V, H, P, hF⟩ := zFor_at hz hI
  obtain ⟨r1, r2, r3, r4, r5, r6, r7, r8, r9, r10, r11, r12, r13⟩ := id hF
  have hleft : a 1 - a 2 = nI (mSt a - mWr a) := by rw [ix1, ix2]; exact pk_sub b1
  refine xr_entry (lv := [some (.ref (xad E 0)), none, none, none, none, none]) (by decide +kernel) (by simp [Value.category]) (Nat.le_of_ble_eq_true rfl) rfl (fun w hw cx cz => ?_)
  subst hw
  cases hg : mGo a with
  | none =>
    have hW : W = 0 := r12.mpr hg
    refine xr_aload_0 cx dL_isForeseen_0 ?_
    refine xr_iconst (v := 0) cx dL_isForeseen_1 (by decide) ?_
    refine xr_V1i (ν := mX8_count) cx dL_isForeseen_2 rfl ml_L_9 vf_X8_count g8 (Nat.le_of_ble_eq_true rfl) (q_count (j := 0) (v := a 1) hG hS rfl rfl ?_)
    refine xr_aload_0 cx dL_isForeseen_5 ?_
    refine xr_iconst (v := 1) cx dL_isForeseen_6 (by decide) ?_
    refine xr_V1i (ν := mX8_count) cx dL_isForeseen_7 rfl ml_L_9 vf_X8_count g8 (Nat.le_of_ble_eq_true rfl) (q_count (j := 1) (v := a 2) hG hS rfl rfl ?_)
    refine xr_isub cx dL_isForeseen_10 ?_
    rw [hleft]
    refine xr_istore_1 cx dL_isForeseen_11 ?_
    refine xr_aload_0 cx dL_isForeseen_12 ?_
    refine xr_iconst (v := 5) cx dL_isForeseen_13 (by decide) ?_
    refine xr_V1i (ν := mX8_wouldBe) cx dL_isForeseen_14 rfl ml_L_66 vf_X8_wouldBe g8 (Nat.le_of_ble_eq_true rfl) (q_would (j := 5) (v := nI W) hG hS rfl (congrArg some r1) (fun τ1 hS1 => ?_))
    refine xr_istore_2 cx dL_isForeseen_17 ?_
    refine xr_aload_0 cx dL_isForeseen_18 ?_
    refine xr_iconst (v := 1) cx dL_isForeseen_19 (by decide) ?_
    refine xr_V1i (ν := mX8_wouldBe) cx dL_isForeseen_20 rfl ml_L_66 vf_X8_wouldBe g8 (Nat.le_of_ble_eq_true rfl) (q_would (j := 1) (v := nI V) hG hS1 rfl (congrArg some r3) (fun τ2 hS2 => ?_))
    refine xr_istore_3 cx dL_isForeseen_23 ?_
    refine xr_iload_2 cx dL_isForeseen_24 ?_
    refine xr_if_lt (tgt := 66) cx dL_isForeseen_25 (by decide) (fun cq25 => ?_) (fun cq25 => ?_)
    · exact absurd cq25 (nI_pos (by omega))
    · refine xr_iload_2 cx dL_isForeseen_28 ?_
      refine xr_iload_1 cx dL_isForeseen_29 ?_
      refine xr_icmp_gt (tgt := 66) cx dL_isForeseen_30 (by decide) (fun cq30 => ?_) (fun cq30 => ?_)
      · exact absurd cq30 (nI_nlt (by omega) (by omega))
      · refine xr_iload_3 cx dL_isForeseen_33 ?_
        refine xr_iload_2 cx dL_isForeseen_34 ?_
        refine xr_icmp_gt (tgt := 66) cx dL_isForeseen_35 (by decide) (fun cq35 => ?_) (fun cq35 => ?_)
        · exact absurd cq35 (nI_nlt (by omega) (by omega))
        · refine xr_aload_0 cx dL_isForeseen_38 ?_
          refine xr_V0i (ν := mX8_photosNeeded) cx dL_isForeseen_39 rfl ml_L_69 vf_X8_photosNeeded g8 (Nat.le_of_ble_eq_true rfl) (q_photosNeeded hG hS2 (fun τ3 hS3 => ?_))
          rw [r5]
          refine xr_iload_3 cx dL_isForeseen_42 ?_
          refine xr_icmp_gt (tgt := 66) cx dL_isForeseen_43 (by decide) (fun cq43 => ?_) (fun cq43 => ?_)
          · exact absurd cq43 (nI_nlt (by omega) (by omega))
          · refine xr_aload_0 cx dL_isForeseen_46 ?_
            refine xr_iconst (v := 0) cx dL_isForeseen_47 (by decide) ?_
            refine xr_V1i (ν := mX8_wouldBe) cx dL_isForeseen_48 rfl ml_L_66 vf_X8_wouldBe g8 (Nat.le_of_ble_eq_true rfl) (q_would (j := 0) (v := nI D) hG hS3 rfl (congrArg some r2) (fun τ4 hS4 => ?_))
            refine xr_if_lt (tgt := 66) cx dL_isForeseen_51 (by decide) (fun cq51 => ?_) (fun cq51 => ?_)
            · exact absurd cq51 (nI_pos (by omega))
            · refine xr_aload_0 cx dL_isForeseen_54 ?_
              refine xr_iconst (v := 2) cx dL_isForeseen_55 (by decide) ?_
              refine xr_V1i (ν := mX8_wouldBe) cx dL_isForeseen_56 rfl ml_L_66 vf_X8_wouldBe g8 (Nat.le_of_ble_eq_true rfl) (q_would (j := 2) (v := nI H) hG hS4 rfl (congrArg some r4) (fun τ5 hS5 => ?_))
              refine xr_if_lt (tgt := 66) cx dL_isForeseen_59 (by decide) (fun cq59 => ?_) (fun cq59 => ?_)
              · exact absurd cq59 (nI_pos (by omega))
              · refine xr_iconst (v := 1) cx dL_isForeseen_62 (by decide) ?_
                refine xr_goto (tgt := 67) cx dL_isForeseen_63 (by decide) ?_
                refine xr_istore_4 cx dL_isForeseen_67 ?_
                refine xr_iload_2 cx dL_isForeseen_69 ?_
                refine xr_if_ne (tgt := 105) cx dL_isForeseen_70 (by decide) (fun cq70 => ?_) (fun cq70 => ?_)
                · exact absurd (by rw [hW]; rfl) cq70
                · refine xr_iload_4 cx dL_isForeseen_73 ?_
                  refine xr_if_eq (tgt := 103) cx dL_isForeseen_75 (by decide) (fun cq75 => ?_) (fun cq75 => ?_)
                  · exact absurd cq75 (by decide)
                  · refine xr_iload_3 cx dL_isForeseen_78 ?_
                    refine xr_if_ne (tgt := 103) cx dL_isForeseen_79 (by decide) (fun cq79 => ?_) (fun cq79 => ?_)
                    · exact absurd (by rw [show V = 0 by omega]; rfl) cq79
                    · refine xr_aload_0 cx dL_isForeseen_82 ?_
                      refine xr_iconst (v := 0) cx dL_isForeseen_83 (by decide) ?_
                      refine xr_V1i (ν := mX8_wouldBe) cx dL_isForeseen_84 rfl ml_L_66 vf_X8_wouldBe g8 (Nat.le_of_ble_eq_true rfl) (q_would (j := 0) (v := nI D) hG hS5 rfl (congrArg some r2) (fun τ6 hS6 => ?_))
                      refine xr_if_ne (tgt := 103) cx dL_isForeseen_87 (by decide) (fun cq87 => ?_) (fun cq87 => ?_)
                      · exact absurd (by rw [show D = 0 by omega]; rfl) cq87
                      · refine xr_aload_0 cx dL_isForeseen_90 ?_
                        refine xr_V0i (ν := mX8_write) cx dL_isForeseen_91 rfl ml_L_28 vf_X8_write g8 (Nat.le_of_ble_eq_true rfl) (q_write_n hG hS6 (oWrite_none hg) ?_)
                        refine xr_bipush (v := -4) cx dL_isForeseen_94 (by decide) ?_
                        refine xr_icmp_ne (tgt := 103) cx dL_isForeseen_96 (by decide) (fun cq96 => ?_) (fun cq96 => ?_)
                        · exact absurd (rfl) cq96
                        · refine xr_iconst (v := 1) cx dL_isForeseen_99 (by decide) ?_
                          refine xr_goto (tgt := 104) cx dL_isForeseen_100 (by decide) ?_
                          refine xr_zret cx cz dL_isForeseen_104 rfl rfl ?_
                          exact h _ ⟨_, _, hS6⟩
  | some q =>
    have hW : W ≠ 0 := fun z => by rw [r12.mp z] at hg; cases hg
    obtain ⟨g1, g2, g3, g4⟩ := mGo_at hI.1 hg
    obtain ⟨W2, D2, V2, H2, P2, hF2⟩ := zFor_at (zInv_write hz hI hg) (mWrite_inv hI g1 g2)
    obtain ⟨t1, t2⟩ := zFor_step hI hg hF hF2
    obtain ⟨s1, s2, s3, s4, s5, s6, s7, s8, s9, s10, s11, s12, s13⟩ := hF2
    have hlen : (if hl.length = 4 then hl.tail else hl).length < 2 ^ 31 := by
      have := CH_le hS.1.2.2.1
      split
      · simp; omega
      · omega
    refine xr_aload_0 cx dL_isForeseen_0 ?_
    refine xr_iconst (v := 0) cx dL_isForeseen_1 (by decide) ?_
    refine xr_V1i (ν := mX8_count) cx dL_isForeseen_2 rfl ml_L_9 vf_X8_count g8 (Nat.le_of_ble_eq_true rfl) (q_count (j := 0) (v := a 1) hG hS rfl rfl ?_)
    refine xr_aload_0 cx dL_isForeseen_5 ?_
    refine xr_iconst (v := 1) cx dL_isForeseen_6 (by decide) ?_
    refine xr_V1i (ν := mX8_count) cx dL_isForeseen_7 rfl ml_L_9 vf_X8_count g8 (Nat.le_of_ble_eq_true rfl) (q_count (j := 1) (v := a 2) hG hS rfl rfl ?_)
    refine xr_isub cx dL_isForeseen_10 ?_
    rw [hleft]
    refine xr_istore_1 cx dL_isForeseen_11 ?_
    refine xr_aload_0 cx dL_isForeseen_12 ?_
    refine xr_iconst (v := 5) cx dL_isForeseen_13 (by decide) ?_
    refine xr_V1i (ν := mX8_wouldBe) cx dL_isForeseen_14 rfl ml_L_66 vf_X8_wouldBe g8 (Nat.le_of_ble_eq_true rfl) (q_would (j := 5) (v := nI W) hG hS rfl (congrArg some r1) (fun τ1 hS1 => ?_))
    refine xr_istore_2 cx dL_isForeseen_17 ?_
    refine xr_aload_0 cx dL_isForeseen_18 ?_
    refine xr_iconst (v := 1) cx dL_isForeseen_19 (by decide) ?_
    refine xr_V1i (ν := mX8_wouldBe) cx dL_isForeseen_20 rfl ml_L_66 vf_X8_wouldBe g8 (Nat.le_of_ble_eq_true rfl) (q_would (j := 1) (v := nI V) hG hS1 rfl (congrArg some r3) (fun τ2 hS2 => ?_))
    refine xr_istore_3 cx dL_isForeseen_23 ?_
    refine xr_iload_2 cx dL_isForeseen_24 ?_
    refine xr_if_lt (tgt := 66) cx dL_isForeseen_25 (by decide) (fun cq25 => ?_) (fun cq25 => ?_)
    · exact absurd cq25 (nI_pos (by omega))
    · refine xr_iload_2 cx dL_isForeseen_28 ?_
      refine xr_iload_1 cx dL_isForeseen_29 ?_
      refine xr_icmp_gt (tgt := 66) cx dL_isForeseen_30 (by decide) (fun cq30 => ?_) (fun cq30 => ?_)
      · exact absurd cq30 (nI_nlt (by omega) (by omega))
      · refine xr_iload_3 cx dL_isForeseen_33 ?_
        refine xr_iload_2 cx dL_isForeseen_34 ?_
        refine xr_icmp_gt (tgt := 66) cx dL_isForeseen_35 (by decide) (fun cq35 => ?_) (fun cq35 => ?_)
        · exact absurd cq35 (nI_nlt (by omega) (by omega))
        · refine xr_aload_0 cx dL_isForeseen_38 ?_
          refine xr_V0i (ν := mX8_photosNeeded) cx dL_isForeseen_39 rfl ml_L_69 vf_X8_photosNeeded g8 (Nat.le_of_ble_eq_true rfl) (q_photosNeeded hG hS2 (fun τ3 hS3 => ?_))
          rw [r5]
          refine xr_iload_3 cx dL_isForeseen_42 ?_
          refine xr_icmp_gt (tgt := 66) cx dL_isForeseen_43 (by decide) (fun cq43 => ?_) (fun cq43 => ?_)
          · exact absurd cq43 (nI_nlt (by omega) (by omega))
          · refine xr_aload_0 cx dL_isForeseen_46 ?_
            refine xr_iconst (v := 0) cx dL_isForeseen_47 (by decide) ?_
            refine xr_V1i (ν := mX8_wouldBe) cx dL_isForeseen_48 rfl ml_L_66 vf_X8_wouldBe g8 (Nat.le_of_ble_eq_true rfl) (q_would (j := 0) (v := nI D) hG hS3 rfl (congrArg some r2) (fun τ4 hS4 => ?_))
            refine xr_if_lt (tgt := 66) cx dL_isForeseen_51 (by decide) (fun cq51 => ?_) (fun cq51 => ?_)
            · exact absurd cq51 (nI_pos (by omega))
            · refine xr_aload_0 cx dL_isForeseen_54 ?_
              refine xr_iconst (v := 2) cx dL_isForeseen_55 (by decide) ?_
              refine xr_V1i (ν := mX8_wouldBe) cx dL_isForeseen_56 rfl ml_L_66 vf_X8_wouldBe g8 (Nat.le_of_ble_eq_true rfl) (q_would (j := 2) (v := nI H) hG hS4 rfl (congrArg some r4) (fun τ5 hS5 => ?_))
              refine xr_if_lt (tgt := 66) cx dL_isForeseen_59 (by decide) (fun cq59 => ?_) (fun cq59 => ?_)
              · exact absurd cq59 (nI_pos (by omega))
              · refine xr_iconst (v := 1) cx dL_isForeseen_62 (by decide) ?_
                refine xr_goto (tgt := 67) cx dL_isForeseen_63 (by decide) ?_
                refine xr_istore_4 cx dL_isForeseen_67 ?_
                refine xr_iload_2 cx dL_isForeseen_69 ?_
                refine xr_if_ne (tgt := 105) cx dL_isForeseen_70 (by decide) (fun cq70 => ?_) (fun cq70 => ?_)
                · refine xr_aload_0 cx dL_isForeseen_105 ?_
                  refine xr_iconst (v := 3) cx dL_isForeseen_106 (by decide) ?_
                  refine xr_V1i (ν := mX8_count) cx dL_isForeseen_107 rfl ml_L_9 vf_X8_count g8 (Nat.le_of_ble_eq_true rfl) (q_count (j := 3) (v := a 8) hG hS5 rfl rfl ?_)
                  refine xr_aload_0 cx dL_isForeseen_110 ?_
                  refine xr_iconst (v := 0) cx dL_isForeseen_111 (by decide) ?_
                  refine xr_V1i (ν := mX8_wouldBe) cx dL_isForeseen_112 rfl ml_L_66 vf_X8_wouldBe g8 (Nat.le_of_ble_eq_true rfl) (q_would (j := 0) (v := nI D) hG hS5 rfl (congrArg some r2) (fun τ6 hS6 => ?_))
                  refine xr_iadd cx dL_isForeseen_115 ?_
                  refine xr_istore_5 cx dL_isForeseen_116 ?_
                  refine xr_iload_4 cx dL_isForeseen_118 ?_
                  refine xr_if_eq (tgt := 177) cx dL_isForeseen_120 (by decide) (fun cq120 => ?_) (fun cq120 => ?_)
                  · exact absurd cq120 (by decide)
                  · refine xr_aload_0 cx dL_isForeseen_123 ?_
                    refine xr_V0i (ν := mX8_write) cx dL_isForeseen_124 rfl ml_L_28 vf_X8_write g8 (Nat.le_of_ble_eq_true rfl) (q_write_s hG hS6 (oWrite_some hg) (zInv_write hz hI hg) (fun τ7 hS7 => ?_))
                    refine xr_if_lt (tgt := 177) cx dL_isForeseen_127 (by decide) (fun cq127 => ?_) (fun cq127 => ?_)
                    · exact absurd cq127 (nI_pos (by omega))
                    · refine xr_aload_0 cx dL_isForeseen_130 ?_
                      refine xr_iconst (v := 5) cx dL_isForeseen_131 (by decide) ?_
                      refine xr_V1i (ν := mX8_wouldBe) cx dL_isForeseen_132 rfl ml_L_66 vf_X8_wouldBe g8 (Nat.le_of_ble_eq_true rfl) (q_would (j := 5) (v := nI W2) hG hS7 rfl (congrArg some s1) (fun τ8 hS8 => ?_))
                      refine xr_iload_2 cx dL_isForeseen_135 ?_
                      refine xr_iconst (v := 1) cx dL_isForeseen_136 (by decide) ?_
                      refine xr_isub cx dL_isForeseen_137 ?_
                      refine xr_icmp_ne (tgt := 177) cx dL_isForeseen_138 (by decide) (fun cq138 => ?_) (fun cq138 => ?_)
                      · exact absurd (by rw [t1, nI_pred]) cq138
                      · refine xr_aload_0 cx dL_isForeseen_141 ?_
                        refine xr_iconst (v := 3) cx dL_isForeseen_142 (by decide) ?_
                        refine xr_V1i (ν := mX8_count) cx dL_isForeseen_143 rfl ml_L_9 vf_X8_count g8 (Nat.le_of_ble_eq_true rfl) (q_count (j := 3) (v := mWrite a q 8) hG hS8 rfl rfl ?_)
                        refine xr_aload_0 cx dL_isForeseen_146 ?_
                        refine xr_iconst (v := 0) cx dL_isForeseen_147 (by decide) ?_
                        refine xr_V1i (ν := mX8_wouldBe) cx dL_isForeseen_148 rfl ml_L_66 vf_X8_wouldBe g8 (Nat.le_of_ble_eq_true rfl) (q_would (j := 0) (v := nI D2) hG hS8 rfl (congrArg some s2) (fun τ9 hS9 => ?_))
                        refine xr_iadd cx dL_isForeseen_151 ?_
                        refine xr_iload_5 cx dL_isForeseen_152 ?_
                        refine xr_icmp_ne (tgt := 177) cx dL_isForeseen_154 (by decide) (fun cq154 => ?_) (fun cq154 => ?_)
                        · exact absurd (t2) cq154
                        · refine xr_aload_0 cx dL_isForeseen_157 ?_
                          refine xr_V0i (ν := mX8_undo) cx dL_isForeseen_158 rfl ml_L_60 vf_X8_undo g8 (Nat.le_of_ble_eq_true rfl) (q_undo_s (hl := if hl.length = 4 then hl.tail else hl) (c := a) hG hS9 (fun τ10 hS10 => ?_))
                          refine xr_if_lt (tgt := 177) cx dL_isForeseen_161 (by decide) (fun cq161 => ?_) (fun cq161 => ?_)
                          · exact absurd cq161 (nI_pos hlen)
                          · refine xr_aload_0 cx dL_isForeseen_164 ?_
                            refine xr_iconst (v := 5) cx dL_isForeseen_165 (by decide) ?_
                            refine xr_V1i (ν := mX8_wouldBe) cx dL_isForeseen_166 rfl ml_L_66 vf_X8_wouldBe g8 (Nat.le_of_ble_eq_true rfl) (q_would (j := 5) (v := nI W) hG hS10 rfl (congrArg some r1) (fun τ11 hS11 => ?_))
                            refine xr_iload_2 cx dL_isForeseen_169 ?_
                            refine xr_icmp_ne (tgt := 177) cx dL_isForeseen_170 (by decide) (fun cq170 => ?_) (fun cq170 => ?_)
                            · exact absurd (rfl) cq170
                            · refine xr_iconst (v := 1) cx dL_isForeseen_173 (by decide) ?_
                              refine xr_goto (tgt := 178) cx dL_isForeseen_174 (by decide) ?_
                              refine xr_zret cx cz dL_isForeseen_178 rfl rfl ?_
                              exact h _ ⟨_, _, hS11⟩
                · exact absurd cq70 (nI_ne0 (by omega) (by omega))
