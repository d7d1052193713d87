/-! A TEXT OF A PLAN, character by character: the place (0 lines due, 1 lines read, 2 a number due, 3 a digit read, 4 a number read), the steps found, the number, their lines, their needs -/
abbrev PS : Type := Nat × Nat × Int32 × (Nat → Int32) × (Nat → Int32)
def pNd (s : PS) : Nat → Int32 := if s.1 = 3 ∨ s.1 = 4 then upd s.2.2.2.2 (s.2.1 - 1) (s.2.2.2.2 (s.2.1 - 1) ||| xbitOf s.2.2.1) else s.2.2.2.2
def pStep (N : Nat) (c : Int32) (s : PS) : Option PS :=
  if s.1 = 0 then (if c - 48 < 1 ∨ 4 < c - 48 then none else some (1, s.2.1 + 1, s.2.2.1, upd s.2.2.2.1 s.2.1 (c - 48), upd s.2.2.2.2 s.2.1 0))
  else if s.1 = 2 then (if ¬ (48 ≤ c ∧ c ≤ 57) ∨ nI (N + s.2.1 - 1) ≤ c - 48 then none else some (if c - 48 = 0 then 4 else 3, s.2.1, c - 48, s.2.2.2.1, s.2.2.2.2))
  else if s.1 = 3 ∧ (48 ≤ c ∧ c ≤ 57) then (if nI (N + s.2.1 - 1) ≤ 10 * s.2.2.1 + (c - 48) then none else some (4, s.2.1, 10 * s.2.2.1 + (c - 48), s.2.2.2.1, s.2.2.2.2))
  else if c = 59 ∨ c = (if s.1 = 1 then 60 else 44) then some (if c = 59 then 0 else 2, s.2.1, s.2.2.1, s.2.2.2.1, pNd s) else none
def pRun (N : Nat) (t : Nat → Int32) : Nat → Nat → PS → Nat ⊕ PS
  | 0, _, s => .inr s
  | n + 1, i, s => match pStep N (t i) s with
    | none => .inl i
    | some q => pRun N t n (i + 1) q
def pBnd (s : PS) : Prop := s.1 ≤ 4 ∧ s.2.1 ≤ 30 ∧ (s.1 ≠ 0 → 1 ≤ s.2.1)
/-- the class's text holds the state s of reading, steps from N on -/
def CT (σ : XSt) (N : Nat) (s : PS) : Prop := σ 158 2 = nI s.2.1 ∧ σ 158 5 = nI s.1 ∧ σ 158 6 = nI N ∧ σ 158 7 = s.2.2.1 ∧ σ 160 = s.2.2.2.1 ∧ σ 162 = s.2.2.2.2
def TF (σ τ : XSt) : Prop := (∀ c, c ≠ 158 → c ≠ 160 → c ≠ 162 → τ c = σ c) ∧ τ 158 3 = σ 158 3
theorem TF_rf (σ : XSt) : TF σ σ := ⟨fun _ _ _ _ => rfl, rfl⟩
theorem TF_tr {σ τ ρ : XSt} (h : TF σ τ) (h2 : TF τ ρ) : TF σ ρ := ⟨fun c a b d => (h2.1 c a b d).trans (h.1 c a b d), h2.2.trans h.2⟩
theorem TF_o {σ : XSt} {j : Nat} {v : Int32} (h : j ≠ 3) : TF σ (su σ 158 (upd (σ 158) j v)) := ⟨fun c a _ _ => su_ne _ _ a, by rw [su_same, upd_ne _ _ (Ne.symm h)]⟩
theorem TF_l {σ : XSt} {f : Nat → Int32} : TF σ (su σ 160 f) := ⟨fun c _ b _ => su_ne _ _ b, by rw [su_ne _ _ (by decide)]⟩
theorem TF_n {σ : XSt} {f : Nat → Int32} : TF σ (su σ 162 f) := ⟨fun c _ _ b => su_ne _ _ b, by rw [su_ne _ _ (by decide)]⟩
theorem nI_step {N F : Nat} (h : 1 ≤ F) : nI N + nI F - 1 = nI (N + F - 1) := by
  rw [nI_add, show N + F = (N + F - 1) + 1 by omega]
  exact nI_pred _
theorem m_X4_isDigit {l : Launch} {E : XEnv} {d : Nat} {σ : XSt} {Q : Int32 → XSt → Prop} {c : Int32} (h : Q (if 48 ≤ c ∧ c ≤ 57 then 1 else 0) σ) : XMi l E d mX4_isDigit [.int c] σ Q := by
  refine xr_entry (lv := [some (.int c)]) (by decide +kernel) (by simp [Value.category]) (Nat.le_of_ble_eq_true rfl) rfl (fun w hw cx cz => ?_)
  subst hw
  refine xr_iload_0 cx dX4_isDigit_0 ?_
  refine xr_bipush (v := 48) cx dX4_isDigit_1 (by decide) ?_
  refine xr_icmp_lt (tgt := 16) cx dX4_isDigit_3 (by decide) (fun cq3 => ?_) (fun cq3 => ?_)
  · refine xr_iconst (v := 0) cx dX4_isDigit_16 (by decide) ?_
    refine xr_zret cx cz dX4_isDigit_17 rfl rfl ?_
    first | exact q_i h (if_pos ⟨Int32.not_lt.mp cq3, Int32.not_lt.mp cq9⟩).symm | exact q_i h (if_neg (fun q => Int32.not_le.mpr cq9 q.2)).symm | exact q_i h (if_neg (fun q => Int32.not_le.mpr cq3 q.1)).symm
  · refine xr_iload_0 cx dX4_isDigit_6 ?_
    refine xr_bipush (v := 57) cx dX4_isDigit_7 (by decide) ?_
    refine xr_icmp_gt (tgt := 16) cx dX4_isDigit_9 (by decide) (fun cq9 => ?_) (fun cq9 => ?_)
    · refine xr_iconst (v := 0) cx dX4_isDigit_16 (by decide) ?_
      refine xr_zret cx cz dX4_isDigit_17 rfl rfl ?_
      first | exact q_i h (if_pos ⟨Int32.not_lt.mp cq3, Int32.not_lt.mp cq9⟩).symm | exact q_i h (if_neg (fun q => Int32.not_le.mpr cq9 q.2)).symm | exact q_i h (if_neg (fun q => Int32.not_le.mpr cq3 q.1)).symm
    · refine xr_iconst (v := 1) cx dX4_isDigit_12 (by decide) ?_
      refine xr_goto (tgt := 17) cx dX4_isDigit_13 (by decide) ?_
      refine xr_zret cx cz dX4_isDigit_17 rfl rfl ?_
      first | exact q_i h (if_pos ⟨Int32.not_lt.mp cq3, Int32.not_lt.mp cq9⟩).symm | exact q_i h (if_neg (fun q => Int32.not_le.mpr cq9 q.2)).symm | exact q_i h (if_neg (fun q => Int32.not_le.mpr cq3 q.1)).symm
theorem m_X4_currentStep {l : Launch} {E : XEnv} {d : Nat} {σ : XSt} {Q : Int32 → XSt → Prop} (hG : xGl E) {N : Nat} {s : PS} (hT : CT σ N s) (hb : pBnd s) (h1 : s.1 ≠ 0) (h : Q (nI (N + s.2.1 - 1)) σ) : XMi l E d mX4_currentStep [.ref (xad E 158)] σ Q := by
  obtain ⟨g0, g1, g2, g3, g4, g5, g6, g7, g8, g72, g73, g158, g159, g160, g161, g162, g163, L9, L30, L51, L74, L95, L116, L137⟩ := id hG
  obtain ⟨t2, t5, t6, t7, tl, tn⟩ := id hT
  obtain ⟨b1, b2, b3⟩ := id hb
  refine xr_entry (lv := [some (.ref (xad E 158))]) (by decide +kernel) (by simp [Value.category]) (Nat.le_of_ble_eq_true rfl) rfl (fun w hw cx cz => ?_)
  subst hw
  refine xr_aload_0 cx dX4_currentStep_0 ?_
  refine xr_getI cx dX4_currentStep_1 fl_X4_31 g158 rfl ?_
  refine xr_aload_0 cx dX4_currentStep_4 ?_
  refine xr_getI cx dX4_currentStep_5 fl_X4_34 g158 rfl ?_
  refine xr_iadd cx dX4_currentStep_8 ?_
  refine xr_iconst (v := 1) cx dX4_currentStep_9 (by decide) ?_
  refine xr_isub cx dX4_currentStep_10 ?_
  refine xr_iret cx cz dX4_currentStep_11 rfl ?_
  exact q_i h (by rw [t6, t2, nI_step (b3 h1)])
def xEndN (s : PS) (σ : XSt) : XSt := su σ 162 (pNd s)
theorem m_X4_endNumber {l : Launch} {E : XEnv} {d : Nat} {σ : XSt} {Q : XSt → Prop} (hG : xGl E) {N : Nat} {s : PS} (hT : CT σ N s) (hb : pBnd s) (h : Q (su σ 162 (pNd s))) : XMv l E (d + 1) mX4_endNumber [.ref (xad E 158)] σ Q := by
  obtain ⟨g0, g1, g2, g3, g4, g5, g6, g7, g8, g72, g73, g158, g159, g160, g161, g162, g163, L9, L30, L51, L74, L95, L116, L137⟩ := id hG
  obtain ⟨t2, t5, t6, t7, tl, tn⟩ := id hT
  obtain ⟨b1, b2, b3⟩ := id hb
  refine xr_entry (lv := [some (.ref (xad E 158)), none]) (by decide +kernel) (by simp [Value.category]) (Nat.le_of_ble_eq_true rfl) rfl (fun w hw cx cz => ?_)
  subst hw
  refine xr_aload_0 cx dX4_endNumber_0 ?_
  refine xr_getI cx dX4_endNumber_1 fl_X4_37 g158 rfl ?_
  refine xr_iconst (v := 3) cx dX4_endNumber_4 (by decide) ?_
  rw [t5]
  refine xr_icmp_eq (tgt := 16) cx dX4_endNumber_5 (by decide) (fun cq5 => ?_) (fun cq5 => ?_)
  · have hp : s.1 = 3 := nI_inj (by omega) (by decide) cq5
    have hF := b3 (by omega)
    have e0 : pNd s = upd s.2.2.2.2 (s.2.1 - 1) (s.2.2.2.2 (s.2.1 - 1) ||| xbitOf s.2.2.1) := if_pos (Or.inl hp)
    refine xr_aload_0 cx dX4_endNumber_16 ?_
    refine xr_getI cx dX4_endNumber_17 fl_X4_34 g158 rfl ?_
    refine xr_iconst (v := 1) cx dX4_endNumber_20 (by decide) ?_
    rw [t2]
    refine xr_isub cx dX4_endNumber_21 ?_
    rw [show nI s.2.1 - 1 = nI (s.2.1 - 1) by rw [show s.2.1 = (s.2.1 - 1) + 1 by omega]; exact nI_pred _]
    refine xr_istore_1 cx dX4_endNumber_22 ?_
    refine xr_aload_0 cx dX4_endNumber_23 ?_
    refine xr_getR cx dX4_endNumber_24 fl_X4_20 g158 rfl ?_
    refine xr_iload_1 cx dX4_endNumber_27 ?_
    refine xr_aload_0 cx dX4_endNumber_28 ?_
    refine xr_getR cx dX4_endNumber_29 fl_X4_20 g158 rfl ?_
    refine xr_iload_1 cx dX4_endNumber_32 ?_
    refine xr_V1i (ν := mX5_at) cx dX4_endNumber_33 rfl ml_X4_73 vf_X5_at g161 (Nat.le_of_ble_eq_true rfl) (m_X5_at g161 g162 (by decide) ?_)
    rw [rowAt_in (by omega) (by decide), tn]
    refine xr_aload_0 cx dX4_endNumber_36 ?_
    refine xr_getI cx dX4_endNumber_37 fl_X4_70 g158 rfl ?_
    rw [t7]
    refine xr_N1i (ν := mX8_bitOf) cx dX4_endNumber_40 rfl nl_X4_77 sf_X8_bitOf (Nat.le_of_ble_eq_true rfl) (m_X8_bitOf ?_)
    refine xr_ior cx dX4_endNumber_43 ?_
    refine xr_V2v (ν := mX5_put) cx dX4_endNumber_44 rfl ml_X4_62 vf_X5_put g161 (Nat.le_of_ble_eq_true rfl) (m_X5_put g161 g162 (by decide) ?_)
    refine xr_vret cx cz dX4_endNumber_47 rfl ?_
    first | exact q_s h (by rw [e0, rowPut_in (by omega) (by decide), tn]) | exact q_s h (by rw [e0, ← tn, su_id])
  · refine xr_aload_0 cx dX4_endNumber_8 ?_
    refine xr_getI cx dX4_endNumber_9 fl_X4_37 g158 rfl ?_
    refine xr_iconst (v := 4) cx dX4_endNumber_12 (by decide) ?_
    rw [t5]
    refine xr_icmp_ne (tgt := 47) cx dX4_endNumber_13 (by decide) (fun cq13 => ?_) (fun cq13 => ?_)
    · have e0 : pNd s = s.2.2.2.2 := if_neg (fun q => Or.elim q (fun q => cq5 (by rw [q]; rfl)) (fun q => cq13 (by rw [q]; rfl)))
      refine xr_vret cx cz dX4_endNumber_47 rfl ?_
      first | exact q_s h (by rw [e0, rowPut_in (by omega) (by decide), tn]) | exact q_s h (by rw [e0, ← tn, su_id])
    · have hp : s.1 = 4 := nI_inj (by omega) (by decide) cq13
      have hF := b3 (by omega)
      have e0 : pNd s = upd s.2.2.2.2 (s.2.1 - 1) (s.2.2.2.2 (s.2.1 - 1) ||| xbitOf s.2.2.1) := if_pos (Or.inr hp)
      refine xr_aload_0 cx dX4_endNumber_16 ?_
      refine xr_getI cx dX4_endNumber_17 fl_X4_34 g158 rfl ?_
      refine xr_iconst (v := 1) cx dX4_endNumber_20 (by decide) ?_
      rw [t2]
      refine xr_isub cx dX4_endNumber_21 ?_
      rw [show nI s.2.1 - 1 = nI (s.2.1 - 1) by rw [show s.2.1 = (s.2.1 - 1) + 1 by omega]; exact nI_pred _]
      refine xr_istore_1 cx dX4_endNumber_22 ?_
      refine xr_aload_0 cx dX4_endNumber_23 ?_
      refine xr_getR cx dX4_endNumber_24 fl_X4_20 g158 rfl ?_
      refine xr_iload_1 cx dX4_endNumber_27 ?_
      refine xr_aload_0 cx dX4_endNumber_28 ?_
      refine xr_getR cx dX4_endNumber_29 fl_X4_20 g158 rfl ?_
      refine xr_iload_1 cx dX4_endNumber_32 ?_
      refine xr_V1i (ν := mX5_at) cx dX4_endNumber_33 rfl ml_X4_73 vf_X5_at g161 (Nat.le_of_ble_eq_true rfl) (m_X5_at g161 g162 (by decide) ?_)
      rw [rowAt_in (by omega) (by decide), tn]
      refine xr_aload_0 cx dX4_endNumber_36 ?_
      refine xr_getI cx dX4_endNumber_37 fl_X4_70 g158 rfl ?_
      rw [t7]
      refine xr_N1i (ν := mX8_bitOf) cx dX4_endNumber_40 rfl nl_X4_77 sf_X8_bitOf (Nat.le_of_ble_eq_true rfl) (m_X8_bitOf ?_)
      refine xr_ior cx dX4_endNumber_43 ?_
      refine xr_V2v (ν := mX5_put) cx dX4_endNumber_44 rfl ml_X4_62 vf_X5_put g161 (Nat.le_of_ble_eq_true rfl) (m_X5_put g161 g162 (by decide) ?_)
      refine xr_vret cx cz dX4_endNumber_47 rfl ?_
      first | exact q_s h (by rw [e0, rowPut_in (by omega) (by decide), tn]) | exact q_s h (by rw [e0, ← tn, su_id])
theorem CT_o {σ : XSt} {N : Nat} {s : PS} (h : CT σ N s) : CT σ N s := h
theorem m_X4_takesLines {l : Launch} {E : XEnv} {d : Nat} {σ : XSt} {Q : Int32 → XSt → Prop} (hG : xGl E) {N : Nat} {c : Int32} {s : PS} (hT : CT σ N s) (hb : pBnd s) (h0 : s.1 = 0) (hF : s.2.1 < 30) (h : ∀ τ, TF σ τ → (∀ q, pStep N c s = some q → CT τ N q) → Q (if (pStep N c s).isSome = true then 1 else 0) τ) : XMi l E (d + 1) mX4_takesLines [.ref (xad E 158), .int c] σ Q := by
  obtain ⟨g0, g1, g2, g3, g4, g5, g6, g7, g8, g72, g73, g158, g159, g160, g161, g162, g163, L9, L30, L51, L74, L95, L116, L137⟩ := id hG
  obtain ⟨t2, t5, t6, t7, tl, tn⟩ := id hT
  obtain ⟨b1, b2, b3⟩ := id hb
  refine xr_entry (lv := [some (.ref (xad E 158)), some (.int c), none]) (by decide +kernel) (by simp [Value.category]) (Nat.le_of_ble_eq_true rfl) rfl (fun w hw cx cz => ?_)
  subst hw
  refine xr_iload_1 cx dX4_takesLines_0 ?_
  refine xr_bipush (v := 48) cx dX4_takesLines_1 (by decide) ?_
  refine xr_isub cx dX4_takesLines_3 ?_
  refine xr_istore_2 cx dX4_takesLines_4 ?_
  refine xr_iload_2 cx dX4_takesLines_5 ?_
  refine xr_iconst (v := 1) cx dX4_takesLines_6 (by decide) ?_
  refine xr_icmp_lt (tgt := 15) cx dX4_takesLines_7 (by decide) (fun cq7 => ?_) (fun cq7 => ?_)
  · refine xr_iconst (v := 0) cx dX4_takesLines_15 (by decide) ?_
    refine xr_zret cx cz dX4_takesLines_16 rfl rfl ?_
    have e0 : pStep N c s = none := by
      unfold pStep
      rw [if_pos h0]
      first | exact if_pos (Or.inl cq7) | exact if_pos (Or.inr (Int32.not_le.mp cq12))
    have h2 := h σ (TF_rf σ) (fun q hq => by rw [e0] at hq; cases hq)
    rw [e0] at h2
    exact h2
  · refine xr_iload_2 cx dX4_takesLines_10 ?_
    refine xr_iconst (v := 4) cx dX4_takesLines_11 (by decide) ?_
    refine xr_icmp_le (tgt := 17) cx dX4_takesLines_12 (by decide) (fun cq12 => ?_) (fun cq12 => ?_)
    · refine xr_aload_0 cx dX4_takesLines_17 ?_
      refine xr_getR cx dX4_takesLines_18 fl_X4_14 g158 rfl ?_
      refine xr_aload_0 cx dX4_takesLines_21 ?_
      refine xr_getI cx dX4_takesLines_22 fl_X4_34 g158 rfl ?_
      refine xr_iload_2 cx dX4_takesLines_25 ?_
      rw [t2]
      refine xr_V2v (ν := mX5_put) cx dX4_takesLines_26 rfl ml_X4_62 vf_X5_put g159 (Nat.le_of_ble_eq_true rfl) (m_X5_put g159 g160 (by decide) ?_)
      refine xr_aload_0 cx dX4_takesLines_29 ?_
      refine xr_getR cx dX4_takesLines_30 fl_X4_20 g158 rfl ?_
      refine xr_aload_0 cx dX4_takesLines_33 ?_
      refine xr_getI cx dX4_takesLines_34 fl_X4_34 g158 rfl ?_
      refine xr_iconst (v := 0) cx dX4_takesLines_37 (by decide) ?_
      rw [su_ne _ _ (by decide), t2]
      refine xr_V2v (ν := mX5_put) cx dX4_takesLines_38 rfl ml_X4_62 vf_X5_put g161 (Nat.le_of_ble_eq_true rfl) (m_X5_put g161 g162 (by decide) ?_)
      refine xr_aload_0 cx dX4_takesLines_41 ?_
      refine xr_dup cx dX4_takesLines_42 rfl ?_
      refine xr_getI cx dX4_takesLines_43 fl_X4_34 g158 rfl ?_
      refine xr_iconst (v := 1) cx dX4_takesLines_46 (by decide) ?_
      refine xr_iadd cx dX4_takesLines_47 ?_
      refine xr_putI cx dX4_takesLines_48 fp_X4_34 g158 rfl ?_
      refine xr_aload_0 cx dX4_takesLines_51 ?_
      refine xr_iconst (v := 1) cx dX4_takesLines_52 (by decide) ?_
      refine xr_putI cx dX4_takesLines_53 fp_X4_37 g158 rfl ?_
      refine xr_iconst (v := 1) cx dX4_takesLines_56 (by decide) ?_
      refine xr_zret cx cz dX4_takesLines_57 rfl rfl ?_
      have e0 : pStep N c s = some (1, s.2.1 + 1, s.2.2.1, upd s.2.2.2.1 s.2.1 (c - 48), upd s.2.2.2.2 s.2.1 0) := by
        unfold pStep
        rw [if_pos h0]
        exact if_neg (fun q => Or.elim q cq7 (fun q => Int32.not_le.mpr q cq12))
      rw [rowPut_in hF (by decide), rowPut_in hF (by decide)]
      have hk : ∀ τ, TF σ τ → CT τ N (Option.get (pStep N c s) (by rw [e0]; rfl)) → Q 1 τ := fun τ u v => by
        have z := h τ u (fun q hq => by
          have : q = Option.get (pStep N c s) (by rw [e0]; rfl) := by simp [hq]
          rw [this]; exact v)
        rw [e0] at z
        exact z
      simp only [e0, Option.get_some] at hk
      refine hk _ ?_ ?_
      · exact TF_tr (TF_tr TF_l TF_n) (TF_tr (TF_o (by decide)) (TF_o (by decide)))
      · refine ⟨?_, ?_, ?_, ?_, ?_, ?_⟩ <;> simp (disch := decide) only [su_same, su_ne, upd_same, upd_ne]
        · rw [t2, nI_1]
        · rfl
        · exact t6
        · exact t7
        · rw [tl]
        · rw [tn]
    · refine xr_iconst (v := 0) cx dX4_takesLines_15 (by decide) ?_
      refine xr_zret cx cz dX4_takesLines_16 rfl rfl ?_
      have e0 : pStep N c s = none := by
        unfold pStep
        rw [if_pos h0]
        first | exact if_pos (Or.inl cq7) | exact if_pos (Or.inr (Int32.not_le.mp cq12))
      have h2 := h σ (TF_rf σ) (fun q hq => by rw [e0] at hq; cases hq)
      rw [e0] at h2
      exact h2
theorem m_X4_takesFirstDigit {l : Launch} {E : XEnv} {d : Nat} {σ : XSt} {Q : Int32 → XSt → Prop} (hG : xGl E) {N : Nat} {c : Int32} {s : PS} (hT : CT σ N s) (hb : pBnd s) (h0 : s.1 = 2) (h : ∀ τ, TF σ τ → (∀ q, pStep N c s = some q → CT τ N q) → Q (if (pStep N c s).isSome = true then 1 else 0) τ) : XMi l E (d + 1) mX4_takesFirstDigit [.ref (xad E 158), .int c] σ Q := by
  obtain ⟨g0, g1, g2, g3, g4, g5, g6, g7, g8, g72, g73, g158, g159, g160, g161, g162, g163, L9, L30, L51, L74, L95, L116, L137⟩ := id hG
  obtain ⟨t2, t5, t6, t7, tl, tn⟩ := id hT
  obtain ⟨b1, b2, b3⟩ := id hb
  refine xr_entry (lv := [some (.ref (xad E 158)), some (.int c), none]) (by decide +kernel) (by simp [Value.category]) (Nat.le_of_ble_eq_true rfl) rfl (fun w hw cx cz => ?_)
  subst hw
  refine xr_iload_1 cx dX4_takesFirstDigit_0 ?_
  refine xr_bipush (v := 48) cx dX4_takesFirstDigit_1 (by decide) ?_
  refine xr_isub cx dX4_takesFirstDigit_3 ?_
  refine xr_istore_2 cx dX4_takesFirstDigit_4 ?_
  refine xr_iload_1 cx dX4_takesFirstDigit_5 ?_
  refine xr_S1i (ν := mX4_isDigit) cx dX4_takesFirstDigit_6 rfl ml_X4_53 sf_X4_isDigit (Nat.le_of_ble_eq_true rfl) (m_X4_isDigit ?_)
  refine xr_if_eq (tgt := 20) cx dX4_takesFirstDigit_9 (by decide) (fun cq9 => ?_) (fun cq9 => ?_)
  · refine xr_iconst (v := 0) cx dX4_takesFirstDigit_20 (by decide) ?_
    refine xr_zret cx cz dX4_takesFirstDigit_21 rfl rfl ?_
    have e0 : pStep N c s = none := by
      unfold pStep
      rw [if_neg (by omega), if_pos h0]
      first | exact if_pos (Or.inl (fun q => by rw [if_pos q] at cq9; exact absurd cq9 (by decide))) | exact if_pos (Or.inr (Int32.not_lt.mp cq17))
    have h2 := h σ (TF_rf σ) (fun q hq => by rw [e0] at hq; cases hq)
    rw [e0] at h2
    exact h2
  · refine xr_iload_2 cx dX4_takesFirstDigit_12 ?_
    refine xr_aload_0 cx dX4_takesFirstDigit_13 ?_
    refine xr_V0i (ν := mX4_currentStep) cx dX4_takesFirstDigit_14 rfl ml_X4_66 vf_X4_currentStep g158 (Nat.le_of_ble_eq_true rfl) (m_X4_currentStep hG hT hb (by omega) ?_)
    refine xr_icmp_lt (tgt := 22) cx dX4_takesFirstDigit_17 (by decide) (fun cq17 => ?_) (fun cq17 => ?_)
    · refine xr_aload_0 cx dX4_takesFirstDigit_22 ?_
      refine xr_iload_2 cx dX4_takesFirstDigit_23 ?_
      refine xr_putI cx dX4_takesFirstDigit_24 fp_X4_70 g158 rfl ?_
      refine xr_aload_0 cx dX4_takesFirstDigit_27 ?_
      refine xr_iload_2 cx dX4_takesFirstDigit_28 ?_
      refine xr_if_ne (tgt := 36) cx dX4_takesFirstDigit_29 (by decide) (fun cq29 => ?_) (fun cq29 => ?_)
      · refine xr_iconst (v := 3) cx dX4_takesFirstDigit_36 (by decide) ?_
        refine xr_putI cx dX4_takesFirstDigit_37 fp_X4_37 g158 rfl ?_
        refine xr_iconst (v := 1) cx dX4_takesFirstDigit_40 (by decide) ?_
        refine xr_zret cx cz dX4_takesFirstDigit_41 rfl rfl ?_
        have hd : 48 ≤ c ∧ c ≤ 57 := by by_cases q : 48 ≤ c ∧ c ≤ 57; exact q; rw [if_neg q] at cq9; exact absurd rfl cq9
        have e0 : pStep N c s = some (if c - 48 = 0 then 4 else 3, s.2.1, c - 48, s.2.2.2.1, s.2.2.2.2) := by
          unfold pStep
          rw [if_neg (by omega), if_pos h0]
          exact if_neg (fun q => Or.elim q (fun q => q hd) (fun q => Int32.not_lt.mpr q cq17))
        have hk : ∀ τ, TF σ τ → CT τ N (Option.get (pStep N c s) (by rw [e0]; rfl)) → Q 1 τ := fun τ u v => by
          have z := h τ u (fun q hq => by
            have : q = Option.get (pStep N c s) (by rw [e0]; rfl) := by simp [hq]
            rw [this]; exact v)
          rw [e0] at z
          exact z
        simp only [e0, Option.get_some] at hk
        refine hk _ ?_ ?_
        · exact TF_tr (TF_o (by decide)) (TF_o (by decide))
        · refine ⟨?_, ?_, ?_, ?_, ?_, ?_⟩ <;> simp (disch := decide) only [su_same, su_ne, upd_same, upd_ne]
          · exact t2
          · first | (rw [if_pos cq29]; rfl) | (rw [if_neg cq29]; rfl)
          · exact t6
          · exact tl
          · exact tn
      · refine xr_iconst (v := 4) cx dX4_takesFirstDigit_32 (by decide) ?_
        refine xr_goto (tgt := 37) cx dX4_takesFirstDigit_33 (by decide) ?_
        refine xr_putI cx dX4_takesFirstDigit_37 fp_X4_37 g158 rfl ?_
        refine xr_iconst (v := 1) cx dX4_takesFirstDigit_40 (by decide) ?_
        refine xr_zret cx cz dX4_takesFirstDigit_41 rfl rfl ?_
        have hd : 48 ≤ c ∧ c ≤ 57 := by by_cases q : 48 ≤ c ∧ c ≤ 57; exact q; rw [if_neg q] at cq9; exact absurd rfl cq9
        have e0 : pStep N c s = some (if c - 48 = 0 then 4 else 3, s.2.1, c - 48, s.2.2.2.1, s.2.2.2.2) := by
          unfold pStep
          rw [if_neg (by omega), if_pos h0]
          exact if_neg (fun q => Or.elim q (fun q => q hd) (fun q => Int32.not_lt.mpr q cq17))
        have hk : ∀ τ, TF σ τ → CT τ N (Option.get (pStep N c s) (by rw [e0]; rfl)) → Q 1 τ := fun τ u v => by
          have z := h τ u (fun q hq => by
            have : q = Option.get (pStep N c s) (by rw [e0]; rfl) := by simp [hq]
            rw [this]; exact v)
          rw [e0] at z
          exact z
        simp only [e0, Option.get_some] at hk
        refine hk _ ?_ ?_
        · exact TF_tr (TF_o (by decide)) (TF_o (by decide))
        · refine ⟨?_, ?_, ?_, ?_, ?_, ?_⟩ <;> simp (disch := decide) only [su_same, su_ne, upd_same, upd_ne]
          · exact t2
          · first | (rw [if_pos cq29]; rfl) | (rw [if_neg cq29]; rfl)
          · exact t6
          · exact tl
          · exact tn
    · refine xr_iconst (v := 0) cx dX4_takesFirstDigit_20 (by decide) ?_
      refine xr_zret cx cz dX4_takesFirstDigit_21 rfl rfl ?_
      have e0 : pStep N c s = none := by
        unfold pStep
        rw [if_neg (by omega), if_pos h0]
        first | exact if_pos (Or.inl (fun q => by rw [if_pos q] at cq9; exact absurd cq9 (by decide))) | exact if_pos (Or.inr (Int32.not_lt.mp cq17))
      have h2 := h σ (TF_rf σ) (fun q hq => by rw [e0] at hq; cases hq)
      rw [e0] at h2
      exact h2
theorem m_X4_takesSecondDigit {l : Launch} {E : XEnv} {d : Nat} {σ : XSt} {Q : Int32 → XSt → Prop} (hG : xGl E) {N : Nat} {c : Int32} {s : PS} (hT : CT σ N s) (hb : pBnd s) (h0 : s.1 = 3) (hd : 48 ≤ c ∧ c ≤ 57) (h : ∀ τ, TF σ τ → (∀ q, pStep N c s = some q → CT τ N q) → Q (if (pStep N c s).isSome = true then 1 else 0) τ) : XMi l E (d + 1) mX4_takesSecondDigit [.ref (xad E 158), .int c] σ Q := by
  obtain ⟨g0, g1, g2, g3, g4, g5, g6, g7, g8, g72, g73, g158, g159, g160, g161, g162, g163, L9, L30, L51, L74, L95, L116, L137⟩ := id hG
  obtain ⟨t2, t5, t6, t7, tl, tn⟩ := id hT
  obtain ⟨b1, b2, b3⟩ := id hb
  refine xr_entry (lv := [some (.ref (xad E 158)), some (.int c), none]) (by decide +kernel) (by simp [Value.category]) (Nat.le_of_ble_eq_true rfl) rfl (fun w hw cx cz => ?_)
  subst hw
  refine xr_bipush (v := 10) cx dX4_takesSecondDigit_0 (by decide) ?_
  refine xr_aload_0 cx dX4_takesSecondDigit_2 ?_
  refine xr_getI cx dX4_takesSecondDigit_3 fl_X4_70 g158 rfl ?_
  rw [t7]
  refine xr_imul cx dX4_takesSecondDigit_6 ?_
  refine xr_iload_1 cx dX4_takesSecondDigit_7 ?_
  refine xr_bipush (v := 48) cx dX4_takesSecondDigit_8 (by decide) ?_
  refine xr_isub cx dX4_takesSecondDigit_10 ?_
  refine xr_iadd cx dX4_takesSecondDigit_11 ?_
  refine xr_istore_2 cx dX4_takesSecondDigit_12 ?_
  refine xr_iload_2 cx dX4_takesSecondDigit_13 ?_
  refine xr_aload_0 cx dX4_takesSecondDigit_14 ?_
  refine xr_V0i (ν := mX4_currentStep) cx dX4_takesSecondDigit_15 rfl ml_X4_66 vf_X4_currentStep g158 (Nat.le_of_ble_eq_true rfl) (m_X4_currentStep hG hT hb (by omega) ?_)
  refine xr_icmp_lt (tgt := 23) cx dX4_takesSecondDigit_18 (by decide) (fun cq18 => ?_) (fun cq18 => ?_)
  · refine xr_aload_0 cx dX4_takesSecondDigit_23 ?_
    refine xr_iload_2 cx dX4_takesSecondDigit_24 ?_
    refine xr_putI cx dX4_takesSecondDigit_25 fp_X4_70 g158 rfl ?_
    refine xr_aload_0 cx dX4_takesSecondDigit_28 ?_
    refine xr_iconst (v := 4) cx dX4_takesSecondDigit_29 (by decide) ?_
    refine xr_putI cx dX4_takesSecondDigit_30 fp_X4_37 g158 rfl ?_
    refine xr_iconst (v := 1) cx dX4_takesSecondDigit_33 (by decide) ?_
    refine xr_zret cx cz dX4_takesSecondDigit_34 rfl rfl ?_
    have e0 : pStep N c s = some (4, s.2.1, 10 * s.2.2.1 + (c - 48), s.2.2.2.1, s.2.2.2.2) := by
      unfold pStep
      rw [if_neg (by omega), if_neg (by omega), if_pos ⟨h0, hd⟩]
      exact if_neg (fun q => Int32.not_lt.mpr q cq18)
    have hk : ∀ τ, TF σ τ → CT τ N (Option.get (pStep N c s) (by rw [e0]; rfl)) → Q 1 τ := fun τ u v => by
      have z := h τ u (fun q hq => by
        have : q = Option.get (pStep N c s) (by rw [e0]; rfl) := by simp [hq]
        rw [this]; exact v)
      rw [e0] at z
      exact z
    simp only [e0, Option.get_some] at hk
    refine hk _ ?_ ?_
    · exact TF_tr (TF_o (by decide)) (TF_o (by decide))
    · refine ⟨?_, ?_, ?_, ?_, ?_, ?_⟩ <;> simp (disch := decide) only [su_same, su_ne, upd_same, upd_ne]
      · exact t2
      · rfl
      · exact t6
      · exact tl
      · exact tn
  · refine xr_iconst (v := 0) cx dX4_takesSecondDigit_21 (by decide) ?_
    refine xr_zret cx cz dX4_takesSecondDigit_22 rfl rfl ?_
    have e0 : pStep N c s = none := by
      unfold pStep
      rw [if_neg (by omega), if_neg (by omega), if_pos ⟨h0, hd⟩]
      exact if_pos (Int32.not_lt.mp cq18)
    have h2 := h σ (TF_rf σ) (fun q hq => by rw [e0] at hq; cases hq)
    rw [e0] at h2
    exact h2
theorem m_X4_takesMark {l : Launch} {E : XEnv} {d : Nat} {σ : XSt} {Q : Int32 → XSt → Prop} (hG : xGl E) {N : Nat} {c : Int32} {s : PS} (hT : CT σ N s) (hb : pBnd s) (h0 : s.1 ≠ 0) (h2 : s.1 ≠ 2) (h3 : ¬ (s.1 = 3 ∧ (48 ≤ c ∧ c ≤ 57))) (h : ∀ τ, TF σ τ → (∀ q, pStep N c s = some q → CT τ N q) → Q (if (pStep N c s).isSome = true then 1 else 0) τ) : XMi l E (d + 2) mX4_takesMark [.ref (xad E 158), .int c] σ Q := by
  obtain ⟨g0, g1, g2, g3, g4, g5, g6, g7, g8, g72, g73, g158, g159, g160, g161, g162, g163, L9, L30, L51, L74, L95, L116, L137⟩ := id hG
  obtain ⟨t2, t5, t6, t7, tl, tn⟩ := id hT
  obtain ⟨b1, b2, b3⟩ := id hb
  refine xr_entry (lv := [some (.ref (xad E 158)), some (.int c), none]) (by decide +kernel) (by simp [Value.category]) (Nat.le_of_ble_eq_true rfl) rfl (fun w hw cx cz => ?_)
  subst hw
  refine xr_aload_0 cx dX4_takesMark_0 ?_
  refine xr_getI cx dX4_takesMark_1 fl_X4_37 g158 rfl ?_
  refine xr_iconst (v := 1) cx dX4_takesMark_4 (by decide) ?_
  rw [t5]
  refine xr_icmp_ne (tgt := 13) cx dX4_takesMark_5 (by decide) (fun cq5 => ?_) (fun cq5 => ?_)
  · have hm : (if s.1 = 1 then (60 : Int32) else 44) = 44 := if_neg (fun q => cq5 (by rw [q]; rfl))
    refine xr_bipush (v := 44) cx dX4_takesMark_13 (by decide) ?_
    refine xr_istore_2 cx dX4_takesMark_15 ?_
    refine xr_iload_1 cx dX4_takesMark_16 ?_
    refine xr_bipush (v := 59) cx dX4_takesMark_17 (by decide) ?_
    refine xr_icmp_eq (tgt := 29) cx dX4_takesMark_19 (by decide) (fun cq19 => ?_) (fun cq19 => ?_)
    · refine xr_aload_0 cx dX4_takesMark_29 ?_
      refine xr_V0v (ν := mX4_endNumber) cx dX4_takesMark_30 rfl ml_X4_44 vf_X4_endNumber g158 (Nat.le_of_ble_eq_true rfl) (m_X4_endNumber hG hT hb ?_)
      refine xr_aload_0 cx dX4_takesMark_33 ?_
      refine xr_iload_1 cx dX4_takesMark_34 ?_
      refine xr_bipush (v := 59) cx dX4_takesMark_35 (by decide) ?_
      refine xr_icmp_ne (tgt := 44) cx dX4_takesMark_37 (by decide) (fun cq37 => ?_) (fun cq37 => ?_)
      · refine xr_iconst (v := 2) cx dX4_takesMark_44 (by decide) ?_
        refine xr_putI cx dX4_takesMark_45 fp_X4_37 g158 rfl ?_
        refine xr_iconst (v := 1) cx dX4_takesMark_48 (by decide) ?_
        refine xr_zret cx cz dX4_takesMark_49 rfl rfl ?_
        have e0 : pStep N c s = some (if c = 59 then 0 else 2, s.2.1, s.2.2.1, s.2.2.2.1, pNd s) := by
          unfold pStep
          rw [if_neg h0, if_neg h2, if_neg h3, hm]
          first | exact if_pos (Or.inl cq19) | exact if_pos (Or.inr cq24)
        have hk : ∀ τ, TF σ τ → CT τ N (Option.get (pStep N c s) (by rw [e0]; rfl)) → Q 1 τ := fun τ u v => by
          have z := h τ u (fun q hq => by
            have : q = Option.get (pStep N c s) (by rw [e0]; rfl) := by simp [hq]
            rw [this]; exact v)
          rw [e0] at z
          exact z
        simp only [e0, Option.get_some] at hk
        refine hk _ ?_ ?_
        · exact TF_tr TF_n (TF_o (by decide))
        · refine ⟨?_, ?_, ?_, ?_, ?_, ?_⟩ <;> simp (disch := decide) only [su_same, su_ne, upd_same, upd_ne]
          · exact t2
          · first | (rw [if_pos cq37]; rfl) | (rw [if_neg cq37]; rfl)
          · exact t6
          · exact t7
          · exact tl
      · refine xr_iconst (v := 0) cx dX4_takesMark_40 (by decide) ?_
        refine xr_goto (tgt := 45) cx dX4_takesMark_41 (by decide) ?_
        refine xr_putI cx dX4_takesMark_45 fp_X4_37 g158 rfl ?_
        refine xr_iconst (v := 1) cx dX4_takesMark_48 (by decide) ?_
        refine xr_zret cx cz dX4_takesMark_49 rfl rfl ?_
        have e0 : pStep N c s = some (if c = 59 then 0 else 2, s.2.1, s.2.2.1, s.2.2.2.1, pNd s) := by
          unfold pStep
          rw [if_neg h0, if_neg h2, if_neg h3, hm]
          first | exact if_pos (Or.inl cq19) | exact if_pos (Or.inr cq24)
        have hk : ∀ τ, TF σ τ → CT τ N (Option.get (pStep N c s) (by rw [e0]; rfl)) → Q 1 τ := fun τ u v => by
          have z := h τ u (fun q hq => by
            have : q = Option.get (pStep N c s) (by rw [e0]; rfl) := by simp [hq]
            rw [this]; exact v)
          rw [e0] at z
          exact z
        simp only [e0, Option.get_some] at hk
        refine hk _ ?_ ?_
        · exact TF_tr TF_n (TF_o (by decide))
        · refine ⟨?_, ?_, ?_, ?_, ?_, ?_⟩ <;> simp (disch := decide) only [su_same, su_ne, upd_same, upd_ne]
          · exact t2
          · first | (rw [if_pos cq37]; rfl) | (rw [if_neg cq37]; rfl)
          · exact t6
          · exact t7
          · exact tl
    · refine xr_iload_1 cx dX4_takesMark_22 ?_
      refine xr_iload_2 cx dX4_takesMark_23 ?_
      refine xr_icmp_eq (tgt := 29) cx dX4_takesMark_24 (by decide) (fun cq24 => ?_) (fun cq24 => ?_)
      · refine xr_aload_0 cx dX4_takesMark_29 ?_
        refine xr_V0v (ν := mX4_endNumber) cx dX4_takesMark_30 rfl ml_X4_44 vf_X4_endNumber g158 (Nat.le_of_ble_eq_true rfl) (m_X4_endNumber hG hT hb ?_)
        refine xr_aload_0 cx dX4_takesMark_33 ?_
        refine xr_iload_1 cx dX4_takesMark_34 ?_
        refine xr_bipush (v := 59) cx dX4_takesMark_35 (by decide) ?_
        refine xr_icmp_ne (tgt := 44) cx dX4_takesMark_37 (by decide) (fun cq37 => ?_) (fun cq37 => ?_)
        · refine xr_iconst (v := 2) cx dX4_takesMark_44 (by decide) ?_
          refine xr_putI cx dX4_takesMark_45 fp_X4_37 g158 rfl ?_
          refine xr_iconst (v := 1) cx dX4_takesMark_48 (by decide) ?_
          refine xr_zret cx cz dX4_takesMark_49 rfl rfl ?_
          have e0 : pStep N c s = some (if c = 59 then 0 else 2, s.2.1, s.2.2.1, s.2.2.2.1, pNd s) := by
            unfold pStep
            rw [if_neg h0, if_neg h2, if_neg h3, hm]
            first | exact if_pos (Or.inl cq19) | exact if_pos (Or.inr cq24)
          have hk : ∀ τ, TF σ τ → CT τ N (Option.get (pStep N c s) (by rw [e0]; rfl)) → Q 1 τ := fun τ u v => by
            have z := h τ u (fun q hq => by
              have : q = Option.get (pStep N c s) (by rw [e0]; rfl) := by simp [hq]
              rw [this]; exact v)
            rw [e0] at z
            exact z
          simp only [e0, Option.get_some] at hk
          refine hk _ ?_ ?_
          · exact TF_tr TF_n (TF_o (by decide))
          · refine ⟨?_, ?_, ?_, ?_, ?_, ?_⟩ <;> simp (disch := decide) only [su_same, su_ne, upd_same, upd_ne]
            · exact t2
            · first | (rw [if_pos cq37]; rfl) | (rw [if_neg cq37]; rfl)
            · exact t6
            · exact t7
            · exact tl
        · refine xr_iconst (v := 0) cx dX4_takesMark_40 (by decide) ?_
          refine xr_goto (tgt := 45) cx dX4_takesMark_41 (by decide) ?_
          refine xr_putI cx dX4_takesMark_45 fp_X4_37 g158 rfl ?_
          refine xr_iconst (v := 1) cx dX4_takesMark_48 (by decide) ?_
          refine xr_zret cx cz dX4_takesMark_49 rfl rfl ?_
          have e0 : pStep N c s = some (if c = 59 then 0 else 2, s.2.1, s.2.2.1, s.2.2.2.1, pNd s) := by
            unfold pStep
            rw [if_neg h0, if_neg h2, if_neg h3, hm]
            first | exact if_pos (Or.inl cq19) | exact if_pos (Or.inr cq24)
          have hk : ∀ τ, TF σ τ → CT τ N (Option.get (pStep N c s) (by rw [e0]; rfl)) → Q 1 τ := fun τ u v => by
            have z := h τ u (fun q hq => by
              have : q = Option.get (pStep N c s) (by rw [e0]; rfl) := by simp [hq]
              rw [this]; exact v)
            rw [e0] at z
            exact z
          simp only [e0, Option.get_some] at hk
          refine hk _ ?_ ?_
          · exact TF_tr TF_n (TF_o (by decide))
          · refine ⟨?_, ?_, ?_, ?_, ?_, ?_⟩ <;> simp (disch := decide) only [su_same, su_ne, upd_same, upd_ne]
            · exact t2
            · first | (rw [if_pos cq37]; rfl) | (rw [if_neg cq37]; rfl)
            · exact t6
            · exact t7
            · exact tl
      · refine xr_iconst (v := 0) cx dX4_takesMark_27 (by decide) ?_
        refine xr_zret cx cz dX4_takesMark_28 rfl rfl ?_
        have e0 : pStep N c s = none := by
          unfold pStep
          rw [if_neg h0, if_neg h2, if_neg h3, hm]
          exact if_neg (fun q => Or.elim q cq19 cq24)
        have h4 := h σ (TF_rf σ) (fun q hq => by rw [e0] at hq; cases hq)
        rw [e0] at h4
        exact h4
  · have hm : (if s.1 = 1 then (60 : Int32) else 44) = 60 := if_pos (nI_inj (by omega) (by decide) cq5)
    refine xr_bipush (v := 60) cx dX4_takesMark_8 (by decide) ?_
    refine xr_goto (tgt := 15) cx dX4_takesMark_10 (by decide) ?_
    refine xr_istore_2 cx dX4_takesMark_15 ?_
    refine xr_iload_1 cx dX4_takesMark_16 ?_
    refine xr_bipush (v := 59) cx dX4_takesMark_17 (by decide) ?_
    refine xr_icmp_eq (tgt := 29) cx dX4_takesMark_19 (by decide) (fun cq19 => ?_) (fun cq19 => ?_)
    · refine xr_aload_0 cx dX4_takesMark_29 ?_
      refine xr_V0v (ν := mX4_endNumber) cx dX4_takesMark_30 rfl ml_X4_44 vf_X4_endNumber g158 (Nat.le_of_ble_eq_true rfl) (m_X4_endNumber hG hT hb ?_)
      refine xr_aload_0 cx dX4_takesMark_33 ?_
      refine xr_iload_1 cx dX4_takesMark_34 ?_
      refine xr_bipush (v := 59) cx dX4_takesMark_35 (by decide) ?_
      refine xr_icmp_ne (tgt := 44) cx dX4_takesMark_37 (by decide) (fun cq37 => ?_) (fun cq37 => ?_)
      · refine xr_iconst (v := 2) cx dX4_takesMark_44 (by decide) ?_
        refine xr_putI cx dX4_takesMark_45 fp_X4_37 g158 rfl ?_
        refine xr_iconst (v := 1) cx dX4_takesMark_48 (by decide) ?_
        refine xr_zret cx cz dX4_takesMark_49 rfl rfl ?_
        have e0 : pStep N c s = some (if c = 59 then 0 else 2, s.2.1, s.2.2.1, s.2.2.2.1, pNd s) := by
          unfold pStep
          rw [if_neg h0, if_neg h2, if_neg h3, hm]
          first | exact if_pos (Or.inl cq19) | exact if_pos (Or.inr cq24)
        have hk : ∀ τ, TF σ τ → CT τ N (Option.get (pStep N c s) (by rw [e0]; rfl)) → Q 1 τ := fun τ u v => by
          have z := h τ u (fun q hq => by
            have : q = Option.get (pStep N c s) (by rw [e0]; rfl) := by simp [hq]
            rw [this]; exact v)
          rw [e0] at z
          exact z
        simp only [e0, Option.get_some] at hk
        refine hk _ ?_ ?_
        · exact TF_tr TF_n (TF_o (by decide))
        · refine ⟨?_, ?_, ?_, ?_, ?_, ?_⟩ <;> simp (disch := decide) only [su_same, su_ne, upd_same, upd_ne]
          · exact t2
          · first | (rw [if_pos cq37]; rfl) | (rw [if_neg cq37]; rfl)
          · exact t6
          · exact t7
          · exact tl
      · refine xr_iconst (v := 0) cx dX4_takesMark_40 (by decide) ?_
        refine xr_goto (tgt := 45) cx dX4_takesMark_41 (by decide) ?_
        refine xr_putI cx dX4_takesMark_45 fp_X4_37 g158 rfl ?_
        refine xr_iconst (v := 1) cx dX4_takesMark_48 (by decide) ?_
        refine xr_zret cx cz dX4_takesMark_49 rfl rfl ?_
        have e0 : pStep N c s = some (if c = 59 then 0 else 2, s.2.1, s.2.2.1, s.2.2.2.1, pNd s) := by
          unfold pStep
          rw [if_neg h0, if_neg h2, if_neg h3, hm]
          first | exact if_pos (Or.inl cq19) | exact if_pos (Or.inr cq24)
        have hk : ∀ τ, TF σ τ → CT τ N (Option.get (pStep N c s) (by rw [e0]; rfl)) → Q 1 τ := fun τ u v => by
          have z := h τ u (fun q hq => by
            have : q = Option.get (pStep N c s) (by rw [e0]; rfl) := by simp [hq]
            rw [this]; exact v)
          rw [e0] at z
          exact z
        simp only [e0, Option.get_some] at hk
        refine hk _ ?_ ?_
        · exact TF_tr TF_n (TF_o (by decide))
        · refine ⟨?_, ?_, ?_, ?_, ?_, ?_⟩ <;> simp (disch := decide) only [su_same, su_ne, upd_same, upd_ne]
          · exact t2
          · first | (rw [if_pos cq37]; rfl) | (rw [if_neg cq37]; rfl)
          · exact t6
          · exact t7
          · exact tl
    · refine xr_iload_1 cx dX4_takesMark_22 ?_
      refine xr_iload_2 cx dX4_takesMark_23 ?_
      refine xr_icmp_eq (tgt := 29) cx dX4_takesMark_24 (by decide) (fun cq24 => ?_) (fun cq24 => ?_)
      · refine xr_aload_0 cx dX4_takesMark_29 ?_
        refine xr_V0v (ν := mX4_endNumber) cx dX4_takesMark_30 rfl ml_X4_44 vf_X4_endNumber g158 (Nat.le_of_ble_eq_true rfl) (m_X4_endNumber hG hT hb ?_)
        refine xr_aload_0 cx dX4_takesMark_33 ?_
        refine xr_iload_1 cx dX4_takesMark_34 ?_
        refine xr_bipush (v := 59) cx dX4_takesMark_35 (by decide) ?_
        refine xr_icmp_ne (tgt := 44) cx dX4_takesMark_37 (by decide) (fun cq37 => ?_) (fun cq37 => ?_)
        · refine xr_iconst (v := 2) cx dX4_takesMark_44 (by decide) ?_
          refine xr_putI cx dX4_takesMark_45 fp_X4_37 g158 rfl ?_
          refine xr_iconst (v := 1) cx dX4_takesMark_48 (by decide) ?_
          refine xr_zret cx cz dX4_takesMark_49 rfl rfl ?_
          have e0 : pStep N c s = some (if c = 59 then 0 else 2, s.2.1, s.2.2.1, s.2.2.2.1, pNd s) := by
            unfold pStep
            rw [if_neg h0, if_neg h2, if_neg h3, hm]
            first | exact if_pos (Or.inl cq19) | exact if_pos (Or.inr cq24)
          have hk : ∀ τ, TF σ τ → CT τ N (Option.get (pStep N c s) (by rw [e0]; rfl)) → Q 1 τ := fun τ u v => by
            have z := h τ u (fun q hq => by
              have : q = Option.get (pStep N c s) (by rw [e0]; rfl) := by simp [hq]
              rw [this]; exact v)
            rw [e0] at z
            exact z
          simp only [e0, Option.get_some] at hk
          refine hk _ ?_ ?_
          · exact TF_tr TF_n (TF_o (by decide))
          · refine ⟨?_, ?_, ?_, ?_, ?_, ?_⟩ <;> simp (disch := decide) only [su_same, su_ne, upd_same, upd_ne]
            · exact t2
            · first | (rw [if_pos cq37]; rfl) | (rw [if_neg cq37]; rfl)
            · exact t6
            · exact t7
            · exact tl
        · refine xr_iconst (v := 0) cx dX4_takesMark_40 (by decide) ?_
          refine xr_goto (tgt := 45) cx dX4_takesMark_41 (by decide) ?_
          refine xr_putI cx dX4_takesMark_45 fp_X4_37 g158 rfl ?_
          refine xr_iconst (v := 1) cx dX4_takesMark_48 (by decide) ?_
          refine xr_zret cx cz dX4_takesMark_49 rfl rfl ?_
          have e0 : pStep N c s = some (if c = 59 then 0 else 2, s.2.1, s.2.2.1, s.2.2.2.1, pNd s) := by
            unfold pStep
            rw [if_neg h0, if_neg h2, if_neg h3, hm]
            first | exact if_pos (Or.inl cq19) | exact if_pos (Or.inr cq24)
          have hk : ∀ τ, TF σ τ → CT τ N (Option.get (pStep N c s) (by rw [e0]; rfl)) → Q 1 τ := fun τ u v => by
            have z := h τ u (fun q hq => by
              have : q = Option.get (pStep N c s) (by rw [e0]; rfl) := by simp [hq]
              rw [this]; exact v)
            rw [e0] at z
            exact z
          simp only [e0, Option.get_some] at hk
          refine hk _ ?_ ?_
          · exact TF_tr TF_n (TF_o (by decide))
          · refine ⟨?_, ?_, ?_, ?_, ?_, ?_⟩ <;> simp (disch := decide) only [su_same, su_ne, upd_same, upd_ne]
            · exact t2
            · first | (rw [if_pos cq37]; rfl) | (rw [if_neg cq37]; rfl)
            · exact t6
            · exact t7
            · exact tl
      · refine xr_iconst (v := 0) cx dX4_takesMark_27 (by decide) ?_
        refine xr_zret cx cz dX4_takesMark_28 rfl rfl ?_
        have e0 : pStep N c s = none := by
          unfold pStep
          rw [if_neg h0, if_neg h2, if_neg h3, hm]
          exact if_neg (fun q => Or.elim q cq19 cq24)
        have h4 := h σ (TF_rf σ) (fun q hq => by rw [e0] at hq; cases hq)
        rw [e0] at h4
        exact h4
theorem m_X4_takes {l : Launch} {E : XEnv} {d : Nat} {σ : XSt} {Q : Int32 → XSt → Prop} (hG : xGl E) {N : Nat} {c : Int32} {s : PS} (hT : CT σ N s) (hb : pBnd s) (hF : s.1 = 0 → s.2.1 < 30) (h : ∀ τ, TF σ τ → (∀ q, pStep N c s = some q → CT τ N q) → Q (if (pStep N c s).isSome = true then 1 else 0) τ) : XMi l E (d + 3) mX4_takes [.ref (xad E 158), .int c] σ Q := by
  obtain ⟨g0, g1, g2, g3, g4, g5, g6, g7, g8, g72, g73, g158, g159, g160, g161, g162, g163, L9, L30, L51, L74, L95, L116, L137⟩ := id hG
  obtain ⟨t2, t5, t6, t7, tl, tn⟩ := id hT
  obtain ⟨b1, b2, b3⟩ := id hb
  refine xr_entry (lv := [some (.ref (xad E 158)), some (.int c)]) (by decide +kernel) (by simp [Value.category]) (Nat.le_of_ble_eq_true rfl) rfl (fun w hw cx cz => ?_)
  subst hw
  refine xr_aload_0 cx dX4_takes_0 ?_
  refine xr_getI cx dX4_takes_1 fl_X4_37 g158 rfl ?_
  rw [t5]
  refine xr_if_ne (tgt := 13) cx dX4_takes_4 (by decide) (fun cq4 => ?_) (fun cq4 => ?_)
  · have h0 : s.1 ≠ 0 := fun q => cq4 (by rw [q]; rfl)
    refine xr_aload_0 cx dX4_takes_13 ?_
    refine xr_getI cx dX4_takes_14 fl_X4_37 g158 rfl ?_
    refine xr_iconst (v := 2) cx dX4_takes_17 (by decide) ?_
    rw [t5]
    refine xr_icmp_ne (tgt := 27) cx dX4_takes_18 (by decide) (fun cq18 => ?_) (fun cq18 => ?_)
    · have h2 : s.1 ≠ 2 := fun q => cq18 (by rw [q]; rfl)
      refine xr_aload_0 cx dX4_takes_27 ?_
      refine xr_getI cx dX4_takes_28 fl_X4_37 g158 rfl ?_
      refine xr_iconst (v := 3) cx dX4_takes_31 (by decide) ?_
      rw [t5]
      refine xr_icmp_ne (tgt := 48) cx dX4_takes_32 (by decide) (fun cq32 => ?_) (fun cq32 => ?_)
      · have h3 : ¬ (s.1 = 3 ∧ (48 ≤ c ∧ c ≤ 57)) := fun q => cq32 (by rw [q.1]; rfl)
        refine xr_aload_0 cx dX4_takes_48 ?_
        refine xr_iload_1 cx dX4_takes_49 ?_
        refine xr_V1i (ν := mX4_takesMark) cx dX4_takes_50 rfl ml_X4_59 vf_X4_takesMark g158 (Nat.le_of_ble_eq_true rfl) (m_X4_takesMark hG hT hb h0 h2 h3 (fun τ ht hq => ?_))
        refine xr_zret cx cz dX4_takes_53 rfl (by split <;> rfl) ?_
        exact h τ ht hq
      · have h30 : s.1 = 3 := nI_inj (by omega) (by decide) cq32
        refine xr_iload_1 cx dX4_takes_35 ?_
        refine xr_S1i (ν := mX4_isDigit) cx dX4_takes_36 rfl ml_X4_53 sf_X4_isDigit (Nat.le_of_ble_eq_true rfl) (m_X4_isDigit ?_)
        refine xr_if_eq (tgt := 48) cx dX4_takes_39 (by decide) (fun cq39 => ?_) (fun cq39 => ?_)
        · have h3 : ¬ (s.1 = 3 ∧ (48 ≤ c ∧ c ≤ 57)) := fun q => by rw [if_pos q.2] at cq39; exact absurd cq39 (by decide)
          refine xr_aload_0 cx dX4_takes_48 ?_
          refine xr_iload_1 cx dX4_takes_49 ?_
          refine xr_V1i (ν := mX4_takesMark) cx dX4_takes_50 rfl ml_X4_59 vf_X4_takesMark g158 (Nat.le_of_ble_eq_true rfl) (m_X4_takesMark hG hT hb h0 h2 h3 (fun τ ht hq => ?_))
          refine xr_zret cx cz dX4_takes_53 rfl (by split <;> rfl) ?_
          exact h τ ht hq
        · have hd : 48 ≤ c ∧ c ≤ 57 := by by_cases q : 48 ≤ c ∧ c ≤ 57; exact q; rw [if_neg q] at cq39; exact absurd rfl cq39
          refine xr_aload_0 cx dX4_takes_42 ?_
          refine xr_iload_1 cx dX4_takes_43 ?_
          refine xr_V1i (ν := mX4_takesSecondDigit) cx dX4_takes_44 rfl ml_X4_56 vf_X4_takesSecondDigit g158 (Nat.le_of_ble_eq_true rfl) (m_X4_takesSecondDigit hG hT hb h30 hd (fun τ ht hq => ?_))
          refine xr_zret cx cz dX4_takes_47 rfl (by split <;> rfl) ?_
          exact h τ ht hq
    · have h2 : s.1 = 2 := nI_inj (by omega) (by decide) cq18
      refine xr_aload_0 cx dX4_takes_21 ?_
      refine xr_iload_1 cx dX4_takes_22 ?_
      refine xr_V1i (ν := mX4_takesFirstDigit) cx dX4_takes_23 rfl ml_X4_50 vf_X4_takesFirstDigit g158 (Nat.le_of_ble_eq_true rfl) (m_X4_takesFirstDigit hG hT hb h2 (fun τ ht hq => ?_))
      refine xr_zret cx cz dX4_takes_26 rfl (by split <;> rfl) ?_
      exact h τ ht hq
  · have h0 : s.1 = 0 := nI_inj (by omega) (by decide) cq4
    refine xr_aload_0 cx dX4_takes_7 ?_
    refine xr_iload_1 cx dX4_takes_8 ?_
    refine xr_V1i (ν := mX4_takesLines) cx dX4_takes_9 rfl ml_X4_47 vf_X4_takesLines g158 (Nat.le_of_ble_eq_true rfl) (m_X4_takesLines hG hT hb h0 (hF h0) (fun τ ht hq => ?_))
    refine xr_zret cx cz dX4_takes_12 rfl (by split <;> rfl) ?_
    exact h τ ht hq
