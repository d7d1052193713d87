def zWp (a : Nat → Int32) (n : Nat) : Int32 := xit (fun p (acc : Int32) => acc + a (23 + p)) n 0 0
def zLs (a : Nat → Int32) (p n : Nat) : Int32 := xit (fun s (acc : Int32) => acc + (if bt (a (17 + p)) s = true then a (109 + s) else 0)) n 0 0
def zAs (a : Nat → Int32) (n : Nat) : Int32 := xit (fun k (acc : Int32) => acc + a (169 + k)) n 0 0
def zNe (a : Nat → Int32) (n : Nat) : Int32 := xit (fun k (acc : Int32) => acc + a (199 + k)) n 0 0
def zTo (a : Nat → Int32) (n : Nat) : Int32 := xit (fun k (acc : Int32) => acc + (if k < mWr a then zBits (a (139 + k)) else 0)) n 0 0
def zPg (a : Nat → Int32) (n : Nat) : Int32 := xit (fun k (acc : Int32) => acc + (if bt (mPh a) k = true then 1 else 0)) n 0 0
section ZQ
variable {a : Nat → Int32} {p n : Nat}
theorem zWp_s : zWp a (n + 1) = zWp a n + a (23 + n) := xit_s _ n 0
theorem zLs_s : zLs a p (n + 1) = zLs a p n + (if bt (a (17 + p)) n = true then a (109 + n) else 0) := xit_s _ n 0
theorem zAs_s : zAs a (n + 1) = zAs a n + a (169 + n) := xit_s _ n 0
theorem zNe_s : zNe a (n + 1) = zNe a n + a (199 + n) := xit_s _ n 0
theorem zTo_s : zTo a (n + 1) = zTo a n + (if n < mWr a then zBits (a (139 + n)) else 0) := xit_s _ n 0
theorem zPg_s : zPg a (n + 1) = zPg a n + (if bt (mPh a) n = true then 1 else 0) := xit_s _ n 0
theorem zLs_m : zLs a p (mSt a) = mLines a p := rfl
end ZQ
theorem lw_lines {d : Nat} {w : XO} {E : XEnv} {a : Nat → Int32} {hl : List (Nat → Int32)} {σ : XSt} (hG : xGl E) (cx : CX (d + 7) w E mL_isWell) (hS : zLS σ a hl) {x1 x2 x3 x4 x5 x6 x7 x9 : Int32} {p : Nat} (hp : p < 6) (hk : XG w E 130 [some (.ref (xad E 0)), some (.int (x1)), some (.int (x2)), some (.int (x3)), some (.int (x4)), some (.int (x5)), some (.int (x6)), some (.int (x7)), some (.int (a 1)), some (.int (x9)), some (.int (nI p)), some (.int (a (17 + p))), some (.int (mLines a p)), some (.int (nI (mSt a)))] [] σ) : ∀ n k, k + n = mSt a → XG w E 90 [some (.ref (xad E 0)), some (.int (x1)), some (.int (x2)), some (.int (x3)), some (.int (x4)), some (.int (x5)), some (.int (x6)), some (.int (x7)), some (.int (a 1)), some (.int (x9)), some (.int (nI p)), some (.int (a (17 + p))), some (.int (zLs a p k)), some (.int (nI k))] [] σ := by
  obtain ⟨g8, g72, g73, g158, g159, g160, g161, g162, g163, L9, L30, L51, L74, L95, L116, L137⟩ := id hG
  have hI := hS.1.2.1
  have hz := hS.2.2.1
  obtain ⟨b1, b2, b3, b4⟩ := xIx_b hI.1
  obtain ⟨ix1, ix2, ix3, ix4, -⟩ := id hI.1
  intro n
  induction n with
  | zero =>
    intro k hkn
    obtain rfl : k = mSt a := by omega
    refine xr_iload_13 cx dL_isWell_90 ?_
    refine xr_iload_8 cx dL_isWell_92 ?_
    refine xr_icmp_ge (tgt := 130) cx dL_isWell_94 (by decide) (fun cq94 => ?_) (fun cq94 => ?_)
    · exact hk
    · exact absurd (by rw [ix1]; exact Int32.le_refl _) cq94
  | succ n ih =>
    intro k hkn
    by_cases hb : bt (a (17 + p)) k = true
    · refine xr_iload_13 cx dL_isWell_90 ?_
      refine xr_iload_8 cx dL_isWell_92 ?_
      refine xr_icmp_ge (tgt := 130) cx dL_isWell_94 (by decide) (fun cq94 => ?_) (fun cq94 => ?_)
      · exact absurd cq94 (by rw [ix1]; exact nI_ge (by omega) (by omega))
      · refine xr_iload_12 cx dL_isWell_97 ?_
        refine xr_iload_11 cx dL_isWell_99 ?_
        refine xr_iload_13 cx dL_isWell_101 ?_
        refine xr_ishr cx dL_isWell_103 ?_
        refine xr_iconst (v := 1) cx dL_isWell_104 (by decide) ?_
        refine xr_iand cx dL_isWell_105 ?_
        refine xr_iconst (v := 1) cx dL_isWell_106 (by decide) ?_
        refine xr_icmp_ne (tgt := 120) cx dL_isWell_107 (by decide) (fun cq107 => ?_) (fun cq107 => ?_)
        · exact absurd ((b_shr1T (by omega)).mpr hb) cq107
        · refine xr_aload_0 cx dL_isWell_110 ?_
          refine xr_iload_13 cx dL_isWell_111 ?_
          refine xr_iconst (v := 0) cx dL_isWell_113 (by decide) ?_
          refine xr_V2i (ν := mX8_step) cx dL_isWell_114 rfl ml_L_32 vf_X8_step g8 (Nat.le_of_ble_eq_true rfl) (q_step (j := 0) (v := a (109 + k)) hG hS (by omega) rfl rfl rfl ?_)
          refine xr_goto (tgt := 121) cx dL_isWell_117 (by decide) ?_
          refine xr_iadd cx dL_isWell_121 ?_
          refine xr_istore_12 cx dL_isWell_122 ?_
          refine xr_iinc_13 (y := 1) cx dL_isWell_124 (by decide) ?_
          refine xr_goto (tgt := 90) cx dL_isWell_127 (by decide) ?_
          have hr := ih (k + 1) (by omega)
          rw [zLs_s, if_pos hb] at hr
          rw [nI_1]
          exact hr
    · refine xr_iload_13 cx dL_isWell_90 ?_
      refine xr_iload_8 cx dL_isWell_92 ?_
      refine xr_icmp_ge (tgt := 130) cx dL_isWell_94 (by decide) (fun cq94 => ?_) (fun cq94 => ?_)
      · exact absurd cq94 (by rw [ix1]; exact nI_ge (by omega) (by omega))
      · refine xr_iload_12 cx dL_isWell_97 ?_
        refine xr_iload_11 cx dL_isWell_99 ?_
        refine xr_iload_13 cx dL_isWell_101 ?_
        refine xr_ishr cx dL_isWell_103 ?_
        refine xr_iconst (v := 1) cx dL_isWell_104 (by decide) ?_
        refine xr_iand cx dL_isWell_105 ?_
        refine xr_iconst (v := 1) cx dL_isWell_106 (by decide) ?_
        refine xr_icmp_ne (tgt := 120) cx dL_isWell_107 (by decide) (fun cq107 => ?_) (fun cq107 => ?_)
        · refine xr_iconst (v := 0) cx dL_isWell_120 (by decide) ?_
          refine xr_iadd cx dL_isWell_121 ?_
          refine xr_istore_12 cx dL_isWell_122 ?_
          refine xr_iinc_13 (y := 1) cx dL_isWell_124 (by decide) ?_
          refine xr_goto (tgt := 90) cx dL_isWell_127 (by decide) ?_
          have hr := ih (k + 1) (by omega)
          rw [zLs_s, if_neg hb] at hr
          rw [nI_1]
          exact hr
        · exact absurd cq107 (fun q => hb ((b_shr1T (by omega)).mp q))
theorem lw_panels {d : Nat} {w : XO} {E : XEnv} {a : Nat → Int32} {hl : List (Nat → Int32)} {σ : XSt} (hG : xGl E) (cx : CX (d + 7) w E mL_isWell) (hS : zLS σ a hl) {x2 x4 x5 x6 x7 : Int32} (hk : ∀ v11 v12 v13, XG w E 224 [some (.ref (xad E 0)), some (.int (zOr a 17 6)), some (.int (x2)), some (.int (zWp a 6)), some (.int (x4)), some (.int (x5)), some (.int (x6)), some (.int (x7)), some (.int (a 1)), some (.int (1)), some (.int (nI 6)), v11, v12, v13] [] σ) : ∀ n p v11 v12 v13, p + n = 6 → XG w E 63 [some (.ref (xad E 0)), some (.int (zOr a 17 p)), some (.int (x2)), some (.int (zWp a p)), some (.int (x4)), some (.int (x5)), some (.int (x6)), some (.int (x7)), some (.int (a 1)), some (.int (1)), some (.int (nI p)), v11, v12, v13] [] σ := by
  obtain ⟨g8, g72, g73, g158, g159, g160, g161, g162, g163, L9, L30, L51, L74, L95, L116, L137⟩ := id hG
  have hI := hS.1.2.1
  have hz := hS.2.2.1
  obtain ⟨b1, b2, b3, b4⟩ := xIx_b hI.1
  obtain ⟨ix1, ix2, ix3, ix4, -⟩ := id hI.1
  intro n
  induction n with
  | zero =>
    intro p v11 v12 v13 hpn
    obtain rfl : p = 6 := by omega
    refine xr_iload_10 cx dL_isWell_63 ?_
    refine xr_bipush (v := 6) cx dL_isWell_65 (by decide) ?_
    refine xr_icmp_ge (tgt := 224) cx dL_isWell_67 (by decide) (fun cq67 => ?_) (fun cq67 => ?_)
    · exact hk _ _ _
    · exact absurd (Int32.le_refl 6) cq67
  | succ n ih =>
    intro p v11 v12 v13 hpn
    have hp : p < 6 := by omega
    refine xr_iload_10 cx dL_isWell_63 ?_
    refine xr_bipush (v := 6) cx dL_isWell_65 (by decide) ?_
    refine xr_icmp_ge (tgt := 224) cx dL_isWell_67 (by decide) (fun cq67 => ?_) (fun cq67 => ?_)
    · exact absurd cq67 (nI_ge (a := p) (b := 6) (by omega) (by decide))
    · refine xr_iload_9 cx dL_isWell_70 ?_
      refine xr_if_eq (tgt := 224) cx dL_isWell_72 (by decide) (fun cq72 => ?_) (fun cq72 => ?_)
      · exact absurd cq72 (by decide)
      · refine xr_aload_0 cx dL_isWell_75 ?_
        refine xr_iload_10 cx dL_isWell_76 ?_
        refine xr_iconst (v := 0) cx dL_isWell_78 (by decide) ?_
        refine xr_V2i (ν := mX8_panel) cx dL_isWell_79 rfl ml_L_38 vf_X8_panel g8 (Nat.le_of_ble_eq_true rfl) (q_panel (j := 0) (v := a (17 + p)) hG hS hp rfl rfl rfl ?_)
        refine xr_istore_11 cx dL_isWell_82 ?_
        refine xr_iconst (v := 0) cx dL_isWell_84 (by decide) ?_
        refine xr_istore_12 cx dL_isWell_85 ?_
        refine xr_iconst (v := 0) cx dL_isWell_87 (by decide) ?_
        refine xr_istore_13 cx dL_isWell_88 ?_
        refine lw_lines hG cx hS hp ?_ (mSt a) 0 (by omega)
        refine xr_iload_1 cx dL_isWell_130 ?_
        refine xr_iload_11 cx dL_isWell_131 ?_
        refine xr_iand cx dL_isWell_133 ?_
        refine xr_if_ne (tgt := 200) cx dL_isWell_134 (by decide) (fun cq134 => ?_) (fun cq134 => ?_)
        · exact absurd (zDisj hI hp) cq134
        · refine xr_iload_12 cx dL_isWell_137 ?_
          refine xr_aload_0 cx dL_isWell_139 ?_
          refine xr_iload_10 cx dL_isWell_140 ?_
          refine xr_iconst (v := 1) cx dL_isWell_142 (by decide) ?_
          refine xr_V2i (ν := mX8_panel) cx dL_isWell_143 rfl ml_L_38 vf_X8_panel g8 (Nat.le_of_ble_eq_true rfl) (q_panel (j := 1) (v := mLines a p) hG hS hp rfl rfl rfl ?_)
          refine xr_icmp_ne (tgt := 200) cx dL_isWell_146 (by decide) (fun cq146 => ?_) (fun cq146 => ?_)
          · exact absurd (rfl) cq146
          · refine xr_iload_12 cx dL_isWell_149 ?_
            refine xr_aload_0 cx dL_isWell_151 ?_
            refine xr_bipush (v := 13) cx dL_isWell_152 (by decide) ?_
            refine xr_V1i (ν := mX8_count) cx dL_isWell_154 rfl ml_L_9 vf_X8_count g8 (Nat.le_of_ble_eq_true rfl) (q_count (j := 13) (v := a 0) hG hS rfl rfl ?_)
            refine xr_icmp_gt (tgt := 200) cx dL_isWell_157 (by decide) (fun cq157 => ?_) (fun cq157 => ?_)
            · exact absurd cq157 (Int32.not_lt.mpr (hz.2.2.1 p hp))
            · refine xr_aload_0 cx dL_isWell_160 ?_
              refine xr_iload_10 cx dL_isWell_161 ?_
              refine xr_iconst (v := 2) cx dL_isWell_163 (by decide) ?_
              refine xr_V2i (ν := mX8_panel) cx dL_isWell_164 rfl ml_L_38 vf_X8_panel g8 (Nat.le_of_ble_eq_true rfl) (q_panel (j := 2) (v := if mFront a p = true then 1 else 0) hG hS hp rfl rfl rfl ?_)
              refine xr_aload_0 cx dL_isWell_167 ?_
              refine xr_iload_10 cx dL_isWell_168 ?_
              refine xr_iconst (v := 1) cx dL_isWell_170 (by decide) ?_
              refine xr_ixor cx dL_isWell_171 ?_
              rw [(zOth_i p hp).1]
              refine xr_iconst (v := 2) cx dL_isWell_172 (by decide) ?_
              refine xr_V2i (ν := mX8_panel) cx dL_isWell_173 rfl ml_L_38 vf_X8_panel g8 (Nat.le_of_ble_eq_true rfl) (q_panel (j := 2) (v := if mFront a (zOth p) = true then 1 else 0) hG hS (zOth_i p hp).2.1 rfl rfl rfl ?_)
              refine xr_iadd cx dL_isWell_176 ?_
              refine xr_iconst (v := 1) cx dL_isWell_177 (by decide) ?_
              refine xr_icmp_ne (tgt := 200) cx dL_isWell_178 (by decide) (fun cq178 => ?_) (fun cq178 => ?_)
              · exact absurd (zFront2 hz.2.1 hp) cq178
              · refine xr_aload_0 cx dL_isWell_181 ?_
                refine xr_iload_10 cx dL_isWell_182 ?_
                refine xr_iconst (v := 5) cx dL_isWell_184 (by decide) ?_
                refine xr_V2i (ν := mX8_panel) cx dL_isWell_185 rfl ml_L_38 vf_X8_panel g8 (Nat.le_of_ble_eq_true rfl) (q_panel (j := 5) (v := a (17 + p) &&& (mPh a ^^^ (-1))) hG hS hp rfl rfl rfl ?_)
                refine xr_iload_11 cx dL_isWell_188 ?_
                refine xr_iconst (v := -1) cx dL_isWell_190 (by decide) ?_
                refine xr_ixor cx dL_isWell_191 ?_
                refine xr_iand cx dL_isWell_192 ?_
                refine xr_if_ne (tgt := 200) cx dL_isWell_193 (by decide) (fun cq193 => ?_) (fun cq193 => ?_)
                · exact absurd (zFresh) cq193
                · refine xr_iconst (v := 1) cx dL_isWell_196 (by decide) ?_
                  refine xr_goto (tgt := 201) cx dL_isWell_197 (by decide) ?_
                  refine xr_istore_9 cx dL_isWell_201 ?_
                  refine xr_iload_1 cx dL_isWell_203 ?_
                  refine xr_iload_11 cx dL_isWell_204 ?_
                  refine xr_ior cx dL_isWell_206 ?_
                  refine xr_istore_1 cx dL_isWell_207 ?_
                  refine xr_iload_3 cx dL_isWell_208 ?_
                  refine xr_aload_0 cx dL_isWell_209 ?_
                  refine xr_iload_10 cx dL_isWell_210 ?_
                  refine xr_iconst (v := 4) cx dL_isWell_212 (by decide) ?_
                  refine xr_V2i (ν := mX8_panel) cx dL_isWell_213 rfl ml_L_38 vf_X8_panel g8 (Nat.le_of_ble_eq_true rfl) (q_panel (j := 4) (v := a (23 + p)) hG hS hp rfl rfl rfl ?_)
                  refine xr_iadd cx dL_isWell_216 ?_
                  refine xr_istore_3 cx dL_isWell_217 ?_
                  refine xr_iinc_10 (y := 1) cx dL_isWell_218 (by decide) ?_
                  refine xr_goto (tgt := 63) cx dL_isWell_221 (by decide) ?_
                  rw [nI_1, ← zOr_s, ← zWp_s]
                  exact ih (p + 1) _ _ _ (by omega)
theorem lw_photos {d : Nat} {w : XO} {E : XEnv} {a : Nat → Int32} {hl : List (Nat → Int32)} {σ : XSt} (hG : xGl E) (cx : CX (d + 7) w E mL_isWell) (hS : zLS σ a hl) {x1 x3 x4 x5 x6 x7 : Int32} {v11 v12 v13 : Option Value} (hk : XG w E 297 [some (.ref (xad E 0)), some (.int (x1)), some (.int (mPh a)), some (.int (x3)), some (.int (x4)), some (.int (x5)), some (.int (x6)), some (.int (x7)), some (.int (a 1)), some (.int (1)), some (.int (nI (mTk a))), v11, v12, v13] [] σ) : ∀ n k, k + n = mTk a → XG w E 227 [some (.ref (xad E 0)), some (.int (x1)), some (.int (zOr a 69 k)), some (.int (x3)), some (.int (x4)), some (.int (x5)), some (.int (x6)), some (.int (x7)), some (.int (a 1)), some (.int (1)), some (.int (nI k)), v11, v12, v13] [] σ := by
  obtain ⟨g8, g72, g73, g158, g159, g160, g161, g162, g163, L9, L30, L51, L74, L95, L116, L137⟩ := id hG
  have hI := hS.1.2.1
  have hz := hS.2.2.1
  obtain ⟨b1, b2, b3, b4⟩ := xIx_b hI.1
  obtain ⟨ix1, ix2, ix3, ix4, -⟩ := id hI.1
  intro n
  induction n with
  | zero =>
    intro k hkn
    obtain rfl : k = mTk a := by omega
    refine xr_iload_10 cx dL_isWell_227 ?_
    refine xr_aload_0 cx dL_isWell_229 ?_
    refine xr_iconst (v := 5) cx dL_isWell_230 (by decide) ?_
    refine xr_V1i (ν := mX8_count) cx dL_isWell_231 rfl ml_L_9 vf_X8_count g8 (Nat.le_of_ble_eq_true rfl) (q_count (j := 5) (v := a 10) hG hS rfl rfl ?_)
    refine xr_icmp_ge (tgt := 297) cx dL_isWell_234 (by decide) (fun cq234 => ?_) (fun cq234 => ?_)
    · exact hk
    · exact absurd (by rw [ix4]; exact Int32.le_refl _) cq234
  | succ n ih =>
    intro k hkn
    have hkt : k < mTk a := by omega
    obtain ⟨hph, q, hq, hqe⟩ := zPhoto hz hI hkt
    refine xr_iload_10 cx dL_isWell_227 ?_
    refine xr_aload_0 cx dL_isWell_229 ?_
    refine xr_iconst (v := 5) cx dL_isWell_230 (by decide) ?_
    refine xr_V1i (ν := mX8_count) cx dL_isWell_231 rfl ml_L_9 vf_X8_count g8 (Nat.le_of_ble_eq_true rfl) (q_count (j := 5) (v := a 10) hG hS rfl rfl ?_)
    refine xr_icmp_ge (tgt := 297) cx dL_isWell_234 (by decide) (fun cq234 => ?_) (fun cq234 => ?_)
    · exact absurd cq234 (by rw [ix4]; exact nI_ge (by omega) (by omega))
    · refine xr_iload_2 cx dL_isWell_237 ?_
      refine xr_aload_0 cx dL_isWell_238 ?_
      refine xr_iload_10 cx dL_isWell_239 ?_
      refine xr_iconst (v := 1) cx dL_isWell_241 (by decide) ?_
      refine xr_V2i (ν := mX8_photoOf) cx dL_isWell_242 rfl ml_L_63 vf_X8_photoOf g8 (Nat.le_of_ble_eq_true rfl) (q_photo1 hG hS hkt rfl ?_)
      refine xr_ior cx dL_isWell_245 ?_
      refine xr_istore_2 cx dL_isWell_246 ?_
      refine xr_iload_9 cx dL_isWell_247 ?_
      refine xr_if_eq (tgt := 288) cx dL_isWell_249 (by decide) (fun cq249 => ?_) (fun cq249 => ?_)
      · exact absurd cq249 (by decide)
      · refine xr_aload_0 cx dL_isWell_252 ?_
        refine xr_iload_10 cx dL_isWell_253 ?_
        refine xr_iconst (v := 1) cx dL_isWell_255 (by decide) ?_
        refine xr_V2i (ν := mX8_photoOf) cx dL_isWell_256 rfl ml_L_63 vf_X8_photoOf g8 (Nat.le_of_ble_eq_true rfl) (q_photo1 hG hS hkt rfl ?_)
        refine xr_if_le (tgt := 288) cx dL_isWell_259 (by decide) (fun cq259 => ?_) (fun cq259 => ?_)
        · exact absurd cq259 (Int32.not_le.mpr hph)
        · refine xr_aload_0 cx dL_isWell_262 ?_
          refine xr_iload_10 cx dL_isWell_263 ?_
          refine xr_iconst (v := 0) cx dL_isWell_265 (by decide) ?_
          refine xr_V2i (ν := mX8_photoOf) cx dL_isWell_266 rfl ml_L_63 vf_X8_photoOf g8 (Nat.le_of_ble_eq_true rfl) (q_photo0 hG hS hkt rfl ?_)
          refine xr_if_lt (tgt := 288) cx dL_isWell_269 (by decide) (fun cq269 => ?_) (fun cq269 => ?_)
          · exact absurd cq269 (by rw [hqe]; exact nI_pos (by omega))
          · refine xr_aload_0 cx dL_isWell_272 ?_
            refine xr_iload_10 cx dL_isWell_273 ?_
            refine xr_iconst (v := 0) cx dL_isWell_275 (by decide) ?_
            refine xr_V2i (ν := mX8_photoOf) cx dL_isWell_276 rfl ml_L_63 vf_X8_photoOf g8 (Nat.le_of_ble_eq_true rfl) (q_photo0 hG hS hkt rfl ?_)
            refine xr_bipush (v := 6) cx dL_isWell_279 (by decide) ?_
            refine xr_icmp_ge (tgt := 288) cx dL_isWell_281 (by decide) (fun cq281 => ?_) (fun cq281 => ?_)
            · exact absurd cq281 (by rw [hqe]; exact nI_ge (a := q) (b := 6) hq (by decide))
            · refine xr_iconst (v := 1) cx dL_isWell_284 (by decide) ?_
              refine xr_goto (tgt := 289) cx dL_isWell_285 (by decide) ?_
              refine xr_istore_9 cx dL_isWell_289 ?_
              refine xr_iinc_10 (y := 1) cx dL_isWell_291 (by decide) ?_
              refine xr_goto (tgt := 227) cx dL_isWell_294 (by decide) ?_
              rw [nI_1, ← zOr_s]
              exact ih (k + 1) (by omega)
theorem lw_steps {d : Nat} {w : XO} {E : XEnv} {a : Nat → Int32} {hl : List (Nat → Int32)} {σ : XSt} (hG : xGl E) (cx : CX (d + 7) w E mL_isWell) (hS : zLS σ a hl) {x3 : Int32} (hk : ∀ v11 v12 v13, XG w E 519 [some (.ref (xad E 0)), some (.int (zOr a 17 6)), some (.int (mPh a)), some (.int (x3)), some (.int (zAs a (mSt a))), some (.int (zNe a (mSt a))), some (.int (zTo a (mSt a))), some (.int (zPg a (mSt a))), some (.int (a 1)), some (.int (1)), some (.int (nI (mSt a))), v11, v12, v13] [] σ) : ∀ n k v11 v12 v13, k + n = mSt a → XG w E 300 [some (.ref (xad E 0)), some (.int (zOr a 17 6)), some (.int (mPh a)), some (.int (x3)), some (.int (zAs a k)), some (.int (zNe a k)), some (.int (zTo a k)), some (.int (zPg a k)), some (.int (a 1)), some (.int (1)), some (.int (nI k)), v11, v12, v13] [] σ := by
  obtain ⟨g8, g72, g73, g158, g159, g160, g161, g162, g163, L9, L30, L51, L74, L95, L116, L137⟩ := id hG
  have hI := hS.1.2.1
  have hz := hS.2.2.1
  obtain ⟨b1, b2, b3, b4⟩ := xIx_b hI.1
  obtain ⟨ix1, ix2, ix3, ix4, -⟩ := id hI.1
  intro n
  induction n with
  | zero =>
    intro k v11 v12 v13 hkn
    obtain rfl : k = mSt a := by omega
    refine xr_iload_10 cx dL_isWell_300 ?_
    refine xr_iload_8 cx dL_isWell_302 ?_
    refine xr_icmp_ge (tgt := 519) cx dL_isWell_304 (by decide) (fun cq304 => ?_) (fun cq304 => ?_)
    · exact hk _ _ _
    · exact absurd (by rw [ix1]; exact Int32.le_refl _) cq304
  | succ n ih =>
    intro k v11 v12 v13 hkm
    have hkn : k < mSt a := by omega
    cases hpn : mPan a k with
    | none =>
      by_cases hw : k < mWr a
      · have hwg : ¬ a 2 ≤ nI k := by rw [ix2]; exact nI_ge hw (by omega)
        have hwl : nI k < a 2 := Int32.not_le.mp hwg
        refine xr_iload_10 cx dL_isWell_300 ?_
        refine xr_iload_8 cx dL_isWell_302 ?_
        refine xr_icmp_ge (tgt := 519) cx dL_isWell_304 (by decide) (fun cq304 => ?_) (fun cq304 => ?_)
        · exact absurd cq304 (by rw [ix1]; exact nI_ge (by omega) (by omega))
        · refine xr_iload_9 cx dL_isWell_307 ?_
          refine xr_if_eq (tgt := 519) cx dL_isWell_309 (by decide) (fun cq309 => ?_) (fun cq309 => ?_)
          · exact absurd cq309 (by decide)
          · refine xr_aload_0 cx dL_isWell_312 ?_
            refine xr_iload_10 cx dL_isWell_313 ?_
            refine xr_iconst (v := 3) cx dL_isWell_315 (by decide) ?_
            refine xr_V2i (ν := mX8_step) cx dL_isWell_316 rfl ml_L_32 vf_X8_step g8 (Nat.le_of_ble_eq_true rfl) (q_step (j := 3) (v := -5) hG hS hkn rfl rfl (by rw [hpn]; rfl) ?_)
            refine xr_istore_11 cx dL_isWell_319 ?_
            refine xr_iload_4 cx dL_isWell_321 ?_
            refine xr_aload_0 cx dL_isWell_323 ?_
            refine xr_iload_10 cx dL_isWell_324 ?_
            refine xr_iconst (v := 5) cx dL_isWell_326 (by decide) ?_
            refine xr_V2i (ν := mX8_step) cx dL_isWell_327 rfl ml_L_32 vf_X8_step g8 (Nat.le_of_ble_eq_true rfl) (q_step (j := 5) (v := a (169 + k)) hG hS hkn rfl rfl rfl ?_)
            refine xr_iadd cx dL_isWell_330 ?_
            refine xr_istore_4 cx dL_isWell_331 ?_
            refine xr_iload_5 cx dL_isWell_333 ?_
            refine xr_aload_0 cx dL_isWell_335 ?_
            refine xr_iload_10 cx dL_isWell_336 ?_
            refine xr_bipush (v := 6) cx dL_isWell_338 (by decide) ?_
            refine xr_V2i (ν := mX8_step) cx dL_isWell_340 rfl ml_L_32 vf_X8_step g8 (Nat.le_of_ble_eq_true rfl) (q_step (j := 6) (v := a (199 + k)) hG hS hkn rfl rfl rfl ?_)
            refine xr_iadd cx dL_isWell_343 ?_
            refine xr_istore_5 cx dL_isWell_344 ?_
            refine xr_iload_6 cx dL_isWell_346 ?_
            refine xr_iload_10 cx dL_isWell_348 ?_
            refine xr_aload_0 cx dL_isWell_350 ?_
            refine xr_iconst (v := 1) cx dL_isWell_351 (by decide) ?_
            refine xr_V1i (ν := mX8_count) cx dL_isWell_352 rfl ml_L_9 vf_X8_count g8 (Nat.le_of_ble_eq_true rfl) (q_count (j := 1) (v := a 2) hG hS rfl rfl ?_)
            refine xr_icmp_ge (tgt := 371) cx dL_isWell_355 (by decide) (fun cq355 => ?_) (fun cq355 => ?_)
            · exact absurd cq355 (hwg)
            · refine xr_aload_0 cx dL_isWell_358 ?_
              refine xr_iload_10 cx dL_isWell_359 ?_
              refine xr_iconst (v := 1) cx dL_isWell_361 (by decide) ?_
              refine xr_V2i (ν := mX8_step) cx dL_isWell_362 rfl ml_L_32 vf_X8_step g8 (Nat.le_of_ble_eq_true rfl) (q_step (j := 1) (v := a (139 + k)) hG hS hkn rfl rfl rfl ?_)
              refine xr_S1i (ν := mL_bits) cx dL_isWell_365 rfl ml_L_35 sf_L_bits (Nat.le_of_ble_eq_true rfl) (m_L_bits ?_)
              refine xr_goto (tgt := 372) cx dL_isWell_368 (by decide) ?_
              refine xr_iadd cx dL_isWell_372 ?_
              refine xr_istore_6 cx dL_isWell_373 ?_
              refine xr_iload_7 cx dL_isWell_375 ?_
              refine xr_aload_0 cx dL_isWell_377 ?_
              refine xr_iload_10 cx dL_isWell_378 ?_
              refine xr_iconst (v := 4) cx dL_isWell_380 (by decide) ?_
              refine xr_V2i (ν := mX8_step) cx dL_isWell_381 rfl ml_L_32 vf_X8_step g8 (Nat.le_of_ble_eq_true rfl) (q_step (j := 4) (v := if bt (mPh a) k = true then 1 else 0) hG hS hkn rfl rfl rfl ?_)
              refine xr_iadd cx dL_isWell_384 ?_
              refine xr_istore_7 cx dL_isWell_385 ?_
              refine xr_iload_11 cx dL_isWell_387 ?_
              refine xr_if_lt (tgt := 396) cx dL_isWell_389 (by decide) (fun cq389 => ?_) (fun cq389 => ?_)
              · refine xr_iconst (v := 0) cx dL_isWell_396 (by decide) ?_
                refine xr_iload_1 cx dL_isWell_397 ?_
                refine xr_iload_10 cx dL_isWell_398 ?_
                refine xr_ishr cx dL_isWell_400 ?_
                refine xr_iconst (v := 1) cx dL_isWell_401 (by decide) ?_
                refine xr_iand cx dL_isWell_402 ?_
                refine xr_iconst (v := 1) cx dL_isWell_403 (by decide) ?_
                refine xr_icmp_ne (tgt := 411) cx dL_isWell_404 (by decide) (fun cq404 => ?_) (fun cq404 => ?_)
                · refine xr_iconst (v := 0) cx dL_isWell_411 (by decide) ?_
                  refine xr_icmp_ne (tgt := 510) cx dL_isWell_412 (by decide) (fun cq412 => ?_) (fun cq412 => ?_)
                  · exact absurd (rfl) cq412
                  · refine xr_iload_11 cx dL_isWell_415 ?_
                    refine xr_if_lt (tgt := 436) cx dL_isWell_417 (by decide) (fun cq417 => ?_) (fun cq417 => ?_)
                    · refine xr_aload_0 cx dL_isWell_436 ?_
                      refine xr_iload_10 cx dL_isWell_437 ?_
                      refine xr_iconst (v := 4) cx dL_isWell_439 (by decide) ?_
                      refine xr_V2i (ν := mX8_step) cx dL_isWell_440 rfl ml_L_32 vf_X8_step g8 (Nat.le_of_ble_eq_true rfl) (q_step (j := 4) (v := if bt (mPh a) k = true then 1 else 0) hG hS hkn rfl rfl rfl ?_)
                      refine xr_iload_2 cx dL_isWell_443 ?_
                      refine xr_iload_10 cx dL_isWell_444 ?_
                      refine xr_ishr cx dL_isWell_446 ?_
                      refine xr_iconst (v := 1) cx dL_isWell_447 (by decide) ?_
                      refine xr_iand cx dL_isWell_448 ?_
                      refine xr_icmp_ne (tgt := 510) cx dL_isWell_449 (by decide) (fun cq449 => ?_) (fun cq449 => ?_)
                      · exact absurd ((b_shr1 (by omega)).symm) cq449
                      · refine xr_aload_0 cx dL_isWell_452 ?_
                        refine xr_iload_10 cx dL_isWell_453 ?_
                        refine xr_iconst (v := 2) cx dL_isWell_455 (by decide) ?_
                        refine xr_V2i (ν := mX8_step) cx dL_isWell_456 rfl ml_L_32 vf_X8_step g8 (Nat.le_of_ble_eq_true rfl) (q_step (j := 2) (v := if nI k < a 2 then 1 else 0) hG hS hkn rfl rfl rfl ?_)
                        refine xr_iload_10 cx dL_isWell_459 ?_
                        refine xr_aload_0 cx dL_isWell_461 ?_
                        refine xr_iconst (v := 1) cx dL_isWell_462 (by decide) ?_
                        refine xr_V1i (ν := mX8_count) cx dL_isWell_463 rfl ml_L_9 vf_X8_count g8 (Nat.le_of_ble_eq_true rfl) (q_count (j := 1) (v := a 2) hG hS rfl rfl ?_)
                        refine xr_icmp_ge (tgt := 473) cx dL_isWell_466 (by decide) (fun cq466 => ?_) (fun cq466 => ?_)
                        · exact absurd cq466 (hwg)
                        · refine xr_iconst (v := 1) cx dL_isWell_469 (by decide) ?_
                          refine xr_goto (tgt := 474) cx dL_isWell_470 (by decide) ?_
                          refine xr_icmp_ne (tgt := 510) cx dL_isWell_474 (by decide) (fun cq474 => ?_) (fun cq474 => ?_)
                          · exact absurd (if_pos hwl) cq474
                          · refine xr_iload_11 cx dL_isWell_477 ?_
                            refine xr_if_lt (tgt := 493) cx dL_isWell_479 (by decide) (fun cq479 => ?_) (fun cq479 => ?_)
                            · refine xr_aload_0 cx dL_isWell_493 ?_
                              refine xr_iload_10 cx dL_isWell_494 ?_
                              refine xr_iconst (v := 1) cx dL_isWell_496 (by decide) ?_
                              refine xr_V2i (ν := mX8_step) cx dL_isWell_497 rfl ml_L_32 vf_X8_step g8 (Nat.le_of_ble_eq_true rfl) (q_step (j := 1) (v := a (139 + k)) hG hS hkn rfl rfl rfl ?_)
                              refine xr_iload_10 cx dL_isWell_500 ?_
                              refine xr_ishr cx dL_isWell_502 ?_
                              refine xr_if_ne (tgt := 510) cx dL_isWell_503 (by decide) (fun cq503 => ?_) (fun cq503 => ?_)
                              · exact absurd (zShr hI hkn) cq503
                              · refine xr_iconst (v := 1) cx dL_isWell_506 (by decide) ?_
                                refine xr_goto (tgt := 511) cx dL_isWell_507 (by decide) ?_
                                refine xr_istore_9 cx dL_isWell_511 ?_
                                refine xr_iinc_10 (y := 1) cx dL_isWell_513 (by decide) ?_
                                refine xr_goto (tgt := 300) cx dL_isWell_516 (by decide) ?_
                                have hr := ih (k + 1) (some (.int (-5))) v12 v13 (by omega)
                                rw [zAs_s, zNe_s, zTo_s, zPg_s, if_pos hw] at hr
                                rw [nI_1]
                                exact hr
                            · exact absurd (by decide) cq479
                    · exact absurd (by decide) cq417
                · exact absurd cq404 (fun q => by have h := (b_shr1T (by omega)).mp q; rw [mPan_none hpn] at h; cases h)
              · exact absurd (by decide) cq389
      · have hwg : a 2 ≤ nI k := by rw [ix2]; exact nI_le (by omega) (by omega)
        refine xr_iload_10 cx dL_isWell_300 ?_
        refine xr_iload_8 cx dL_isWell_302 ?_
        refine xr_icmp_ge (tgt := 519) cx dL_isWell_304 (by decide) (fun cq304 => ?_) (fun cq304 => ?_)
        · exact absurd cq304 (by rw [ix1]; exact nI_ge (by omega) (by omega))
        · refine xr_iload_9 cx dL_isWell_307 ?_
          refine xr_if_eq (tgt := 519) cx dL_isWell_309 (by decide) (fun cq309 => ?_) (fun cq309 => ?_)
          · exact absurd cq309 (by decide)
          · refine xr_aload_0 cx dL_isWell_312 ?_
            refine xr_iload_10 cx dL_isWell_313 ?_
            refine xr_iconst (v := 3) cx dL_isWell_315 (by decide) ?_
            refine xr_V2i (ν := mX8_step) cx dL_isWell_316 rfl ml_L_32 vf_X8_step g8 (Nat.le_of_ble_eq_true rfl) (q_step (j := 3) (v := -5) hG hS hkn rfl rfl (by rw [hpn]; rfl) ?_)
            refine xr_istore_11 cx dL_isWell_319 ?_
            refine xr_iload_4 cx dL_isWell_321 ?_
            refine xr_aload_0 cx dL_isWell_323 ?_
            refine xr_iload_10 cx dL_isWell_324 ?_
            refine xr_iconst (v := 5) cx dL_isWell_326 (by decide) ?_
            refine xr_V2i (ν := mX8_step) cx dL_isWell_327 rfl ml_L_32 vf_X8_step g8 (Nat.le_of_ble_eq_true rfl) (q_step (j := 5) (v := a (169 + k)) hG hS hkn rfl rfl rfl ?_)
            refine xr_iadd cx dL_isWell_330 ?_
            refine xr_istore_4 cx dL_isWell_331 ?_
            refine xr_iload_5 cx dL_isWell_333 ?_
            refine xr_aload_0 cx dL_isWell_335 ?_
            refine xr_iload_10 cx dL_isWell_336 ?_
            refine xr_bipush (v := 6) cx dL_isWell_338 (by decide) ?_
            refine xr_V2i (ν := mX8_step) cx dL_isWell_340 rfl ml_L_32 vf_X8_step g8 (Nat.le_of_ble_eq_true rfl) (q_step (j := 6) (v := a (199 + k)) hG hS hkn rfl rfl rfl ?_)
            refine xr_iadd cx dL_isWell_343 ?_
            refine xr_istore_5 cx dL_isWell_344 ?_
            refine xr_iload_6 cx dL_isWell_346 ?_
            refine xr_iload_10 cx dL_isWell_348 ?_
            refine xr_aload_0 cx dL_isWell_350 ?_
            refine xr_iconst (v := 1) cx dL_isWell_351 (by decide) ?_
            refine xr_V1i (ν := mX8_count) cx dL_isWell_352 rfl ml_L_9 vf_X8_count g8 (Nat.le_of_ble_eq_true rfl) (q_count (j := 1) (v := a 2) hG hS rfl rfl ?_)
            refine xr_icmp_ge (tgt := 371) cx dL_isWell_355 (by decide) (fun cq355 => ?_) (fun cq355 => ?_)
            · refine xr_iconst (v := 0) cx dL_isWell_371 (by decide) ?_
              refine xr_iadd cx dL_isWell_372 ?_
              refine xr_istore_6 cx dL_isWell_373 ?_
              refine xr_iload_7 cx dL_isWell_375 ?_
              refine xr_aload_0 cx dL_isWell_377 ?_
              refine xr_iload_10 cx dL_isWell_378 ?_
              refine xr_iconst (v := 4) cx dL_isWell_380 (by decide) ?_
              refine xr_V2i (ν := mX8_step) cx dL_isWell_381 rfl ml_L_32 vf_X8_step g8 (Nat.le_of_ble_eq_true rfl) (q_step (j := 4) (v := if bt (mPh a) k = true then 1 else 0) hG hS hkn rfl rfl rfl ?_)
              refine xr_iadd cx dL_isWell_384 ?_
              refine xr_istore_7 cx dL_isWell_385 ?_
              refine xr_iload_11 cx dL_isWell_387 ?_
              refine xr_if_lt (tgt := 396) cx dL_isWell_389 (by decide) (fun cq389 => ?_) (fun cq389 => ?_)
              · refine xr_iconst (v := 0) cx dL_isWell_396 (by decide) ?_
                refine xr_iload_1 cx dL_isWell_397 ?_
                refine xr_iload_10 cx dL_isWell_398 ?_
                refine xr_ishr cx dL_isWell_400 ?_
                refine xr_iconst (v := 1) cx dL_isWell_401 (by decide) ?_
                refine xr_iand cx dL_isWell_402 ?_
                refine xr_iconst (v := 1) cx dL_isWell_403 (by decide) ?_
                refine xr_icmp_ne (tgt := 411) cx dL_isWell_404 (by decide) (fun cq404 => ?_) (fun cq404 => ?_)
                · refine xr_iconst (v := 0) cx dL_isWell_411 (by decide) ?_
                  refine xr_icmp_ne (tgt := 510) cx dL_isWell_412 (by decide) (fun cq412 => ?_) (fun cq412 => ?_)
                  · exact absurd (rfl) cq412
                  · refine xr_iload_11 cx dL_isWell_415 ?_
                    refine xr_if_lt (tgt := 436) cx dL_isWell_417 (by decide) (fun cq417 => ?_) (fun cq417 => ?_)
                    · refine xr_aload_0 cx dL_isWell_436 ?_
                      refine xr_iload_10 cx dL_isWell_437 ?_
                      refine xr_iconst (v := 4) cx dL_isWell_439 (by decide) ?_
                      refine xr_V2i (ν := mX8_step) cx dL_isWell_440 rfl ml_L_32 vf_X8_step g8 (Nat.le_of_ble_eq_true rfl) (q_step (j := 4) (v := if bt (mPh a) k = true then 1 else 0) hG hS hkn rfl rfl rfl ?_)
                      refine xr_iload_2 cx dL_isWell_443 ?_
                      refine xr_iload_10 cx dL_isWell_444 ?_
                      refine xr_ishr cx dL_isWell_446 ?_
                      refine xr_iconst (v := 1) cx dL_isWell_447 (by decide) ?_
                      refine xr_iand cx dL_isWell_448 ?_
                      refine xr_icmp_ne (tgt := 510) cx dL_isWell_449 (by decide) (fun cq449 => ?_) (fun cq449 => ?_)
                      · exact absurd ((b_shr1 (by omega)).symm) cq449
                      · refine xr_aload_0 cx dL_isWell_452 ?_
                        refine xr_iload_10 cx dL_isWell_453 ?_
                        refine xr_iconst (v := 2) cx dL_isWell_455 (by decide) ?_
                        refine xr_V2i (ν := mX8_step) cx dL_isWell_456 rfl ml_L_32 vf_X8_step g8 (Nat.le_of_ble_eq_true rfl) (q_step (j := 2) (v := if nI k < a 2 then 1 else 0) hG hS hkn rfl rfl rfl ?_)
                        refine xr_iload_10 cx dL_isWell_459 ?_
                        refine xr_aload_0 cx dL_isWell_461 ?_
                        refine xr_iconst (v := 1) cx dL_isWell_462 (by decide) ?_
                        refine xr_V1i (ν := mX8_count) cx dL_isWell_463 rfl ml_L_9 vf_X8_count g8 (Nat.le_of_ble_eq_true rfl) (q_count (j := 1) (v := a 2) hG hS rfl rfl ?_)
                        refine xr_icmp_ge (tgt := 473) cx dL_isWell_466 (by decide) (fun cq466 => ?_) (fun cq466 => ?_)
                        · refine xr_iconst (v := 0) cx dL_isWell_473 (by decide) ?_
                          refine xr_icmp_ne (tgt := 510) cx dL_isWell_474 (by decide) (fun cq474 => ?_) (fun cq474 => ?_)
                          · exact absurd (if_neg (Int32.not_lt.mpr hwg)) cq474
                          · refine xr_iload_11 cx dL_isWell_477 ?_
                            refine xr_if_lt (tgt := 493) cx dL_isWell_479 (by decide) (fun cq479 => ?_) (fun cq479 => ?_)
                            · refine xr_aload_0 cx dL_isWell_493 ?_
                              refine xr_iload_10 cx dL_isWell_494 ?_
                              refine xr_iconst (v := 1) cx dL_isWell_496 (by decide) ?_
                              refine xr_V2i (ν := mX8_step) cx dL_isWell_497 rfl ml_L_32 vf_X8_step g8 (Nat.le_of_ble_eq_true rfl) (q_step (j := 1) (v := a (139 + k)) hG hS hkn rfl rfl rfl ?_)
                              refine xr_iload_10 cx dL_isWell_500 ?_
                              refine xr_ishr cx dL_isWell_502 ?_
                              refine xr_if_ne (tgt := 510) cx dL_isWell_503 (by decide) (fun cq503 => ?_) (fun cq503 => ?_)
                              · exact absurd (zShr hI hkn) cq503
                              · refine xr_iconst (v := 1) cx dL_isWell_506 (by decide) ?_
                                refine xr_goto (tgt := 511) cx dL_isWell_507 (by decide) ?_
                                refine xr_istore_9 cx dL_isWell_511 ?_
                                refine xr_iinc_10 (y := 1) cx dL_isWell_513 (by decide) ?_
                                refine xr_goto (tgt := 300) cx dL_isWell_516 (by decide) ?_
                                have hr := ih (k + 1) (some (.int (-5))) v12 v13 (by omega)
                                rw [zAs_s, zNe_s, zTo_s, zPg_s, if_neg hw] at hr
                                rw [nI_1]
                                exact hr
                            · exact absurd (by decide) cq479
                        · exact absurd (hwg) cq466
                    · exact absurd (by decide) cq417
                · exact absurd cq404 (fun q => by have h := (b_shr1T (by omega)).mp q; rw [mPan_none hpn] at h; cases h)
              · exact absurd (by decide) cq389
            · exact absurd (hwg) cq355
    | some q =>
      have hq6 := mPan_lt hpn
      have hw : k < mWr a := mPan_wr hI (by omega) hpn
      have hwg : ¬ a 2 ≤ nI k := by rw [ix2]; exact nI_ge hw (by omega)
      have hwl : nI k < a 2 := Int32.not_le.mp hwg
      refine xr_iload_10 cx dL_isWell_300 ?_
      refine xr_iload_8 cx dL_isWell_302 ?_
      refine xr_icmp_ge (tgt := 519) cx dL_isWell_304 (by decide) (fun cq304 => ?_) (fun cq304 => ?_)
      · exact absurd cq304 (by rw [ix1]; exact nI_ge (by omega) (by omega))
      · refine xr_iload_9 cx dL_isWell_307 ?_
        refine xr_if_eq (tgt := 519) cx dL_isWell_309 (by decide) (fun cq309 => ?_) (fun cq309 => ?_)
        · exact absurd cq309 (by decide)
        · refine xr_aload_0 cx dL_isWell_312 ?_
          refine xr_iload_10 cx dL_isWell_313 ?_
          refine xr_iconst (v := 3) cx dL_isWell_315 (by decide) ?_
          refine xr_V2i (ν := mX8_step) cx dL_isWell_316 rfl ml_L_32 vf_X8_step g8 (Nat.le_of_ble_eq_true rfl) (q_step (j := 3) (v := nI q) hG hS hkn rfl rfl (by rw [hpn]; rfl) ?_)
          refine xr_istore_11 cx dL_isWell_319 ?_
          refine xr_iload_4 cx dL_isWell_321 ?_
          refine xr_aload_0 cx dL_isWell_323 ?_
          refine xr_iload_10 cx dL_isWell_324 ?_
          refine xr_iconst (v := 5) cx dL_isWell_326 (by decide) ?_
          refine xr_V2i (ν := mX8_step) cx dL_isWell_327 rfl ml_L_32 vf_X8_step g8 (Nat.le_of_ble_eq_true rfl) (q_step (j := 5) (v := a (169 + k)) hG hS hkn rfl rfl rfl ?_)
          refine xr_iadd cx dL_isWell_330 ?_
          refine xr_istore_4 cx dL_isWell_331 ?_
          refine xr_iload_5 cx dL_isWell_333 ?_
          refine xr_aload_0 cx dL_isWell_335 ?_
          refine xr_iload_10 cx dL_isWell_336 ?_
          refine xr_bipush (v := 6) cx dL_isWell_338 (by decide) ?_
          refine xr_V2i (ν := mX8_step) cx dL_isWell_340 rfl ml_L_32 vf_X8_step g8 (Nat.le_of_ble_eq_true rfl) (q_step (j := 6) (v := a (199 + k)) hG hS hkn rfl rfl rfl ?_)
          refine xr_iadd cx dL_isWell_343 ?_
          refine xr_istore_5 cx dL_isWell_344 ?_
          refine xr_iload_6 cx dL_isWell_346 ?_
          refine xr_iload_10 cx dL_isWell_348 ?_
          refine xr_aload_0 cx dL_isWell_350 ?_
          refine xr_iconst (v := 1) cx dL_isWell_351 (by decide) ?_
          refine xr_V1i (ν := mX8_count) cx dL_isWell_352 rfl ml_L_9 vf_X8_count g8 (Nat.le_of_ble_eq_true rfl) (q_count (j := 1) (v := a 2) hG hS rfl rfl ?_)
          refine xr_icmp_ge (tgt := 371) cx dL_isWell_355 (by decide) (fun cq355 => ?_) (fun cq355 => ?_)
          · exact absurd cq355 (hwg)
          · refine xr_aload_0 cx dL_isWell_358 ?_
            refine xr_iload_10 cx dL_isWell_359 ?_
            refine xr_iconst (v := 1) cx dL_isWell_361 (by decide) ?_
            refine xr_V2i (ν := mX8_step) cx dL_isWell_362 rfl ml_L_32 vf_X8_step g8 (Nat.le_of_ble_eq_true rfl) (q_step (j := 1) (v := a (139 + k)) hG hS hkn rfl rfl rfl ?_)
            refine xr_S1i (ν := mL_bits) cx dL_isWell_365 rfl ml_L_35 sf_L_bits (Nat.le_of_ble_eq_true rfl) (m_L_bits ?_)
            refine xr_goto (tgt := 372) cx dL_isWell_368 (by decide) ?_
            refine xr_iadd cx dL_isWell_372 ?_
            refine xr_istore_6 cx dL_isWell_373 ?_
            refine xr_iload_7 cx dL_isWell_375 ?_
            refine xr_aload_0 cx dL_isWell_377 ?_
            refine xr_iload_10 cx dL_isWell_378 ?_
            refine xr_iconst (v := 4) cx dL_isWell_380 (by decide) ?_
            refine xr_V2i (ν := mX8_step) cx dL_isWell_381 rfl ml_L_32 vf_X8_step g8 (Nat.le_of_ble_eq_true rfl) (q_step (j := 4) (v := if bt (mPh a) k = true then 1 else 0) hG hS hkn rfl rfl rfl ?_)
            refine xr_iadd cx dL_isWell_384 ?_
            refine xr_istore_7 cx dL_isWell_385 ?_
            refine xr_iload_11 cx dL_isWell_387 ?_
            refine xr_if_lt (tgt := 396) cx dL_isWell_389 (by decide) (fun cq389 => ?_) (fun cq389 => ?_)
            · exact absurd cq389 (nI_pos (by omega))
            · refine xr_iconst (v := 1) cx dL_isWell_392 (by decide) ?_
              refine xr_goto (tgt := 397) cx dL_isWell_393 (by decide) ?_
              refine xr_iload_1 cx dL_isWell_397 ?_
              refine xr_iload_10 cx dL_isWell_398 ?_
              refine xr_ishr cx dL_isWell_400 ?_
              refine xr_iconst (v := 1) cx dL_isWell_401 (by decide) ?_
              refine xr_iand cx dL_isWell_402 ?_
              refine xr_iconst (v := 1) cx dL_isWell_403 (by decide) ?_
              refine xr_icmp_ne (tgt := 411) cx dL_isWell_404 (by decide) (fun cq404 => ?_) (fun cq404 => ?_)
              · exact absurd ((b_shr1T (by omega)).mpr (mPan_at hpn).2.2) cq404
              · refine xr_iconst (v := 1) cx dL_isWell_407 (by decide) ?_
                refine xr_goto (tgt := 412) cx dL_isWell_408 (by decide) ?_
                refine xr_icmp_ne (tgt := 510) cx dL_isWell_412 (by decide) (fun cq412 => ?_) (fun cq412 => ?_)
                · exact absurd (rfl) cq412
                · refine xr_iload_11 cx dL_isWell_415 ?_
                  refine xr_if_lt (tgt := 436) cx dL_isWell_417 (by decide) (fun cq417 => ?_) (fun cq417 => ?_)
                  · exact absurd cq417 (nI_pos (by omega))
                  · refine xr_aload_0 cx dL_isWell_420 ?_
                    refine xr_iload_11 cx dL_isWell_421 ?_
                    refine xr_iconst (v := 0) cx dL_isWell_423 (by decide) ?_
                    refine xr_V2i (ν := mX8_panel) cx dL_isWell_424 rfl ml_L_38 vf_X8_panel g8 (Nat.le_of_ble_eq_true rfl) (q_panel (j := 0) (v := a (17 + q)) hG hS hq6 rfl rfl rfl ?_)
                    refine xr_iload_10 cx dL_isWell_427 ?_
                    refine xr_ishr cx dL_isWell_429 ?_
                    refine xr_iconst (v := 1) cx dL_isWell_430 (by decide) ?_
                    refine xr_iand cx dL_isWell_431 ?_
                    refine xr_iconst (v := 1) cx dL_isWell_432 (by decide) ?_
                    refine xr_icmp_ne (tgt := 510) cx dL_isWell_433 (by decide) (fun cq433 => ?_) (fun cq433 => ?_)
                    · exact absurd ((b_shr1T (by omega)).mpr (mPan_at hpn).2.1) cq433
                    · refine xr_aload_0 cx dL_isWell_436 ?_
                      refine xr_iload_10 cx dL_isWell_437 ?_
                      refine xr_iconst (v := 4) cx dL_isWell_439 (by decide) ?_
                      refine xr_V2i (ν := mX8_step) cx dL_isWell_440 rfl ml_L_32 vf_X8_step g8 (Nat.le_of_ble_eq_true rfl) (q_step (j := 4) (v := if bt (mPh a) k = true then 1 else 0) hG hS hkn rfl rfl rfl ?_)
                      refine xr_iload_2 cx dL_isWell_443 ?_
                      refine xr_iload_10 cx dL_isWell_444 ?_
                      refine xr_ishr cx dL_isWell_446 ?_
                      refine xr_iconst (v := 1) cx dL_isWell_447 (by decide) ?_
                      refine xr_iand cx dL_isWell_448 ?_
                      refine xr_icmp_ne (tgt := 510) cx dL_isWell_449 (by decide) (fun cq449 => ?_) (fun cq449 => ?_)
                      · exact absurd ((b_shr1 (by omega)).symm) cq449
                      · refine xr_aload_0 cx dL_isWell_452 ?_
                        refine xr_iload_10 cx dL_isWell_453 ?_
                        refine xr_iconst (v := 2) cx dL_isWell_455 (by decide) ?_
                        refine xr_V2i (ν := mX8_step) cx dL_isWell_456 rfl ml_L_32 vf_X8_step g8 (Nat.le_of_ble_eq_true rfl) (q_step (j := 2) (v := if nI k < a 2 then 1 else 0) hG hS hkn rfl rfl rfl ?_)
                        refine xr_iload_10 cx dL_isWell_459 ?_
                        refine xr_aload_0 cx dL_isWell_461 ?_
                        refine xr_iconst (v := 1) cx dL_isWell_462 (by decide) ?_
                        refine xr_V1i (ν := mX8_count) cx dL_isWell_463 rfl ml_L_9 vf_X8_count g8 (Nat.le_of_ble_eq_true rfl) (q_count (j := 1) (v := a 2) hG hS rfl rfl ?_)
                        refine xr_icmp_ge (tgt := 473) cx dL_isWell_466 (by decide) (fun cq466 => ?_) (fun cq466 => ?_)
                        · exact absurd cq466 (hwg)
                        · refine xr_iconst (v := 1) cx dL_isWell_469 (by decide) ?_
                          refine xr_goto (tgt := 474) cx dL_isWell_470 (by decide) ?_
                          refine xr_icmp_ne (tgt := 510) cx dL_isWell_474 (by decide) (fun cq474 => ?_) (fun cq474 => ?_)
                          · exact absurd (if_pos hwl) cq474
                          · refine xr_iload_11 cx dL_isWell_477 ?_
                            refine xr_if_lt (tgt := 493) cx dL_isWell_479 (by decide) (fun cq479 => ?_) (fun cq479 => ?_)
                            · exact absurd cq479 (nI_pos (by omega))
                            · refine xr_aload_0 cx dL_isWell_482 ?_
                              refine xr_iload_10 cx dL_isWell_483 ?_
                              refine xr_iconst (v := 2) cx dL_isWell_485 (by decide) ?_
                              refine xr_V2i (ν := mX8_step) cx dL_isWell_486 rfl ml_L_32 vf_X8_step g8 (Nat.le_of_ble_eq_true rfl) (q_step (j := 2) (v := if nI k < a 2 then 1 else 0) hG hS hkn rfl rfl rfl ?_)
                              refine xr_iconst (v := 1) cx dL_isWell_489 (by decide) ?_
                              refine xr_icmp_ne (tgt := 510) cx dL_isWell_490 (by decide) (fun cq490 => ?_) (fun cq490 => ?_)
                              · exact absurd (if_pos hwl) cq490
                              · refine xr_aload_0 cx dL_isWell_493 ?_
                                refine xr_iload_10 cx dL_isWell_494 ?_
                                refine xr_iconst (v := 1) cx dL_isWell_496 (by decide) ?_
                                refine xr_V2i (ν := mX8_step) cx dL_isWell_497 rfl ml_L_32 vf_X8_step g8 (Nat.le_of_ble_eq_true rfl) (q_step (j := 1) (v := a (139 + k)) hG hS hkn rfl rfl rfl ?_)
                                refine xr_iload_10 cx dL_isWell_500 ?_
                                refine xr_ishr cx dL_isWell_502 ?_
                                refine xr_if_ne (tgt := 510) cx dL_isWell_503 (by decide) (fun cq503 => ?_) (fun cq503 => ?_)
                                · exact absurd (zShr hI hkn) cq503
                                · refine xr_iconst (v := 1) cx dL_isWell_506 (by decide) ?_
                                  refine xr_goto (tgt := 511) cx dL_isWell_507 (by decide) ?_
                                  refine xr_istore_9 cx dL_isWell_511 ?_
                                  refine xr_iinc_10 (y := 1) cx dL_isWell_513 (by decide) ?_
                                  refine xr_goto (tgt := 300) cx dL_isWell_516 (by decide) ?_
                                  have hr := ih (k + 1) (some (.int (nI q))) v12 v13 (by omega)
                                  rw [zAs_s, zNe_s, zTo_s, zPg_s, if_pos hw] at hr
                                  rw [nI_1]
                                  exact hr
theorem zMis {a : Nat → Int32} (hz : zInv a) (hI : xInv a) : ¬ zNe a (mSt a) < a 11 + a 12 + a 13 := by
  obtain ⟨n, hn, e⟩ := zMissed hz
  have := zNeed_le hI
  rw [e, show zNe a (mSt a) = nI (zNeed a) from zNeeded hI]
  exact nI_nlt (by omega) (by omega)
theorem m_L_isWell {l : Launch} {E : XEnv} {d : Nat} {σ : XSt} {a : Nat → Int32} {hl : List (Nat → Int32)} {Q : Int32 → XSt → Prop} (hG : xGl E) (hS : zLS σ a hl) (h : Q 1 σ) : XMi l E (d + 7) mL_isWell [.ref (xad E 0)] σ Q := by
  obtain ⟨g8, g72, g73, g158, g159, g160, g161, g162, g163, L9, L30, L51, L74, L95, L116, L137⟩ := id hG
  have hI := hS.1.2.1
  have hz := hS.2.2.1
  obtain ⟨b1, b2, b3, b4⟩ := xIx_b hI.1
  obtain ⟨ix1, ix2, ix3, ix4, -⟩ := id hI.1
  refine xr_entry (lv := [some (.ref (xad E 0)), none, none, none, none, none, none, none, none, none, none, none, none, none]) (by decide +kernel) (by simp [Value.category]) (Nat.le_of_ble_eq_true rfl) rfl (fun w hw cx cz => ?_)
  subst hw
  refine xr_iconst (v := 0) cx dL_isWell_0 (by decide) ?_
  refine xr_istore_1 cx dL_isWell_1 ?_
  refine xr_iconst (v := 0) cx dL_isWell_2 (by decide) ?_
  refine xr_istore_2 cx dL_isWell_3 ?_
  refine xr_iconst (v := 0) cx dL_isWell_4 (by decide) ?_
  refine xr_istore_3 cx dL_isWell_5 ?_
  refine xr_iconst (v := 0) cx dL_isWell_6 (by decide) ?_
  refine xr_istore_4 cx dL_isWell_7 ?_
  refine xr_iconst (v := 0) cx dL_isWell_9 (by decide) ?_
  refine xr_istore_5 cx dL_isWell_10 ?_
  refine xr_iconst (v := 0) cx dL_isWell_12 (by decide) ?_
  refine xr_istore_6 cx dL_isWell_13 ?_
  refine xr_iconst (v := 0) cx dL_isWell_15 (by decide) ?_
  refine xr_istore_7 cx dL_isWell_16 ?_
  refine xr_aload_0 cx dL_isWell_18 ?_
  refine xr_iconst (v := 0) cx dL_isWell_19 (by decide) ?_
  refine xr_V1i (ν := mX8_count) cx dL_isWell_20 rfl ml_L_9 vf_X8_count g8 (Nat.le_of_ble_eq_true rfl) (q_count (j := 0) (v := a 1) hG hS rfl rfl ?_)
  refine xr_istore_8 cx dL_isWell_23 ?_
  refine xr_aload_0 cx dL_isWell_25 ?_
  refine xr_iconst (v := 1) cx dL_isWell_26 (by decide) ?_
  refine xr_V1i (ν := mX8_count) cx dL_isWell_27 rfl ml_L_9 vf_X8_count g8 (Nat.le_of_ble_eq_true rfl) (q_count (j := 1) (v := a 2) hG hS rfl rfl ?_)
  refine xr_iload_8 cx dL_isWell_30 ?_
  refine xr_icmp_gt (tgt := 57) cx dL_isWell_32 (by decide) (fun cq32 => ?_) (fun cq32 => ?_)
  · exact absurd cq32 (by rw [ix1, ix2]; exact nI_nlt (by omega) (by omega))
  · refine xr_aload_0 cx dL_isWell_35 ?_
    refine xr_iconst (v := 2) cx dL_isWell_36 (by decide) ?_
    refine xr_V1i (ν := mX8_count) cx dL_isWell_37 rfl ml_L_9 vf_X8_count g8 (Nat.le_of_ble_eq_true rfl) (q_count (j := 2) (v := a 3) hG hS rfl rfl ?_)
    refine xr_if_lt (tgt := 57) cx dL_isWell_40 (by decide) (fun cq40 => ?_) (fun cq40 => ?_)
    · exact absurd cq40 (by rw [ix3]; exact nI_pos (by omega))
    · refine xr_aload_0 cx dL_isWell_43 ?_
      refine xr_iconst (v := 2) cx dL_isWell_44 (by decide) ?_
      refine xr_V1i (ν := mX8_count) cx dL_isWell_45 rfl ml_L_9 vf_X8_count g8 (Nat.le_of_ble_eq_true rfl) (q_count (j := 2) (v := a 3) hG hS rfl rfl ?_)
      refine xr_bipush (v := 6) cx dL_isWell_48 (by decide) ?_
      refine xr_icmp_ge (tgt := 57) cx dL_isWell_50 (by decide) (fun cq50 => ?_) (fun cq50 => ?_)
      · exact absurd cq50 (by rw [ix3]; exact nI_ge (b := 6) b3 (by decide))
      · refine xr_iconst (v := 1) cx dL_isWell_53 (by decide) ?_
        refine xr_goto (tgt := 58) cx dL_isWell_54 (by decide) ?_
        refine xr_istore_9 cx dL_isWell_58 ?_
        refine xr_iconst (v := 0) cx dL_isWell_60 (by decide) ?_
        refine xr_istore_10 cx dL_isWell_61 ?_
        refine lw_panels hG cx hS (fun v11 v12 v13 => ?_) 6 0 _ _ _ rfl
        refine xr_iconst (v := 0) cx dL_isWell_224 (by decide) ?_
        refine xr_istore_10 cx dL_isWell_225 ?_
        refine lw_photos hG cx hS ?_ (mTk a) 0 (by omega)
        refine xr_iconst (v := 0) cx dL_isWell_297 (by decide) ?_
        refine xr_istore_10 cx dL_isWell_298 ?_
        refine lw_steps hG cx hS (fun v11 v12 v13 => ?_) (mSt a) 0 _ _ _ (by omega)
        refine xr_iload_9 cx dL_isWell_519 ?_
        refine xr_if_eq (tgt := 608) cx dL_isWell_521 (by decide) (fun cq521 => ?_) (fun cq521 => ?_)
        · exact absurd cq521 (by decide)
        · refine xr_iload_3 cx dL_isWell_524 ?_
          refine xr_aload_0 cx dL_isWell_525 ?_
          refine xr_iconst (v := 4) cx dL_isWell_526 (by decide) ?_
          refine xr_V1i (ν := mX8_count) cx dL_isWell_527 rfl ml_L_9 vf_X8_count g8 (Nat.le_of_ble_eq_true rfl) (q_count (j := 4) (v := a 9) hG hS rfl rfl ?_)
          refine xr_icmp_ne (tgt := 608) cx dL_isWell_530 (by decide) (fun cq530 => ?_) (fun cq530 => ?_)
          · exact absurd (zWps hI) cq530
          · refine xr_iload_4 cx dL_isWell_533 ?_
            refine xr_aload_0 cx dL_isWell_535 ?_
            refine xr_bipush (v := 9) cx dL_isWell_536 (by decide) ?_
            refine xr_V1i (ν := mX8_count) cx dL_isWell_538 rfl ml_L_9 vf_X8_count g8 (Nat.le_of_ble_eq_true rfl) (q_count (j := 9) (v := a 14) hG hS rfl rfl ?_)
            refine xr_aload_0 cx dL_isWell_541 ?_
            refine xr_bipush (v := 10) cx dL_isWell_542 (by decide) ?_
            refine xr_V1i (ν := mX8_count) cx dL_isWell_544 rfl ml_L_9 vf_X8_count g8 (Nat.le_of_ble_eq_true rfl) (q_count (j := 10) (v := a 15) hG hS rfl rfl ?_)
            refine xr_iadd cx dL_isWell_547 ?_
            refine xr_aload_0 cx dL_isWell_548 ?_
            refine xr_bipush (v := 11) cx dL_isWell_549 (by decide) ?_
            refine xr_V1i (ν := mX8_count) cx dL_isWell_551 rfl ml_L_9 vf_X8_count g8 (Nat.le_of_ble_eq_true rfl) (q_count (j := 11) (v := a 16) hG hS rfl rfl ?_)
            refine xr_iadd cx dL_isWell_554 ?_
            refine xr_icmp_ne (tgt := 608) cx dL_isWell_555 (by decide) (fun cq555 => ?_) (fun cq555 => ?_)
            · exact absurd (zAsked hz hI) cq555
            · refine xr_iload_5 cx dL_isWell_558 ?_
              refine xr_iload_6 cx dL_isWell_560 ?_
              refine xr_icmp_ne (tgt := 608) cx dL_isWell_562 (by decide) (fun cq562 => ?_) (fun cq562 => ?_)
              · exact absurd ((zNeeded hI).trans (zTold hI).symm) cq562
              · refine xr_iload_7 cx dL_isWell_565 ?_
                refine xr_iload_2 cx dL_isWell_567 ?_
                refine xr_S1i (ν := mL_bits) cx dL_isWell_568 rfl ml_L_35 sf_L_bits (Nat.le_of_ble_eq_true rfl) (m_L_bits ?_)
                refine xr_icmp_ne (tgt := 608) cx dL_isWell_571 (by decide) (fun cq571 => ?_) (fun cq571 => ?_)
                · exact absurd (zPhd hz hI) cq571
                · refine xr_aload_0 cx dL_isWell_574 ?_
                  refine xr_S1i (ν := mL_missed) cx dL_isWell_575 rfl ml_L_24 sf_L_missed (Nat.le_of_ble_eq_true rfl) (m_L_missed hG hS ?_)
                  refine xr_iload_5 cx dL_isWell_578 ?_
                  refine xr_icmp_gt (tgt := 608) cx dL_isWell_580 (by decide) (fun cq580 => ?_) (fun cq580 => ?_)
                  · exact absurd cq580 (zMis hz hI)
                  · refine xr_aload_0 cx dL_isWell_583 ?_
                    refine xr_bipush (v := 12) cx dL_isWell_584 (by decide) ?_
                    refine xr_V1i (ν := mX8_count) cx dL_isWell_586 rfl ml_L_9 vf_X8_count g8 (Nat.le_of_ble_eq_true rfl) (q_count (j := 12) (v := a 2 - swar (xit (fun p acc => acc ||| a (17 + p)) 6 0 0 ||| mPh a)) hG hS rfl rfl ?_)
                    refine xr_aload_0 cx dL_isWell_589 ?_
                    refine xr_iconst (v := 1) cx dL_isWell_590 (by decide) ?_
                    refine xr_V1i (ν := mX8_count) cx dL_isWell_591 rfl ml_L_9 vf_X8_count g8 (Nat.le_of_ble_eq_true rfl) (q_count (j := 1) (v := a 2) hG hS rfl rfl ?_)
                    refine xr_iload_1 cx dL_isWell_594 ?_
                    refine xr_iload_2 cx dL_isWell_595 ?_
                    refine xr_ior cx dL_isWell_596 ?_
                    refine xr_S1i (ν := mL_bits) cx dL_isWell_597 rfl ml_L_35 sf_L_bits (Nat.le_of_ble_eq_true rfl) (m_L_bits ?_)
                    refine xr_isub cx dL_isWell_600 ?_
                    refine xr_icmp_ne (tgt := 608) cx dL_isWell_601 (by decide) (fun cq601 => ?_) (fun cq601 => ?_)
                    · exact absurd (by rw [zGone hz hI]) cq601
                    · refine xr_iconst (v := 1) cx dL_isWell_604 (by decide) ?_
                      refine xr_goto (tgt := 609) cx dL_isWell_605 (by decide) ?_
                      refine xr_zret cx cz dL_isWell_609 rfl rfl ?_
                      exact h
