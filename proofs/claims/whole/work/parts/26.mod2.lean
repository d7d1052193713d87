/-- the reference's history, snapshot, text -/
def MH (σ : XSt) (hl : List (Nat → Int32)) : Prop := σ 0 3 = nI hl.length ∧ hl.length ≤ 4 ∧ ∀ i c, hl[i]? = some c → ∀ j, j < 230 → σ 3 (230 * i + j) = c j
def MS (σ : XSt) (sn : Option (Nat → Int32)) : Prop := match sn with
  | none => σ 0 5 = 0
  | some c => σ 0 5 = 1 ∧ ∀ j, j < 230 → σ 4 j = c j
def MT (σ : XSt) (t : Nat → Int32) (L : Nat) : Prop := σ 0 7 = nI L ∧ L ≤ 60 ∧ ∀ i, i < L → σ 5 i = t i
/-- the reference's cells hold the row a now, hl, sn, and a text t of L characters -/
def MRel (σ : XSt) (a : Nat → Int32) (hl : List (Nat → Int32)) (sn : Option (Nat → Int32)) (t : Nat → Int32) (L : Nat) : Prop := σ 1 = a ∧ MH σ hl ∧ MS σ sn ∧ MT σ t L
section MR
variable {σ τ : XSt} {a c : Nat → Int32} {hl : List (Nat → Int32)} {sn : Option (Nat → Int32)} {t : Nat → Int32} {L : Nat}
theorem MH_fr (h : MH σ hl) (h0 : τ 0 3 = σ 0 3) (h3 : τ 3 = σ 3) : MH τ hl := ⟨h0.trans h.1, h.2.1, fun i c hi j hj => by rw [h3]; exact h.2.2 i c hi j hj⟩
theorem MS_fr (h : MS σ sn) (h0 : τ 0 5 = σ 0 5) (h4 : τ 4 = σ 4) : MS τ sn := by
  cases sn with
  | none => exact h0.trans h
  | some c => exact ⟨h0.trans h.1, fun j hj => by rw [h4]; exact h.2 j hj⟩
theorem MT_fr (h : MT σ t L) (h0 : τ 0 7 = σ 0 7) (h5 : τ 5 = σ 5) : MT τ t L := ⟨h0.trans h.1, h.2.1, fun i hi => by rw [h5]; exact h.2.2 i hi⟩
theorem MRel_1 (h : MRel σ a hl sn t L) : MRel (su σ 1 c) c hl sn t L := ⟨su_same _ _ _, MH_fr h.2.1 (by rw [su_ne _ _ (by decide)]) (su_ne _ _ (by decide)), MS_fr h.2.2.1 (by rw [su_ne _ _ (by decide)]) (su_ne _ _ (by decide)), MT_fr h.2.2.2 (by rw [su_ne _ _ (by decide)]) (su_ne _ _ (by decide))⟩
theorem MRel_2 (h : MRel σ a hl sn t L) : MRel (su σ 2 c) a hl sn t L := ⟨(su_ne _ _ (by decide)).trans h.1, MH_fr h.2.1 (by rw [su_ne _ _ (by decide)]) (su_ne _ _ (by decide)), MS_fr h.2.2.1 (by rw [su_ne _ _ (by decide)]) (su_ne _ _ (by decide)), MT_fr h.2.2.2 (by rw [su_ne _ _ (by decide)]) (su_ne _ _ (by decide))⟩
theorem MRel_c (h : MRel σ a hl sn t L) (hf : ∀ k, k < 8 → τ k = σ k) : MRel τ a hl sn t L := ⟨(hf 1 (by decide)).trans h.1, MH_fr h.2.1 (congrFun (hf 0 (by decide)) 3) (hf 3 (by decide)), MS_fr h.2.2.1 (congrFun (hf 0 (by decide)) 5) (hf 4 (by decide)), MT_fr h.2.2.2 (congrFun (hf 0 (by decide)) 7) (hf 5 (by decide))⟩
end MR
theorem lp_X9_acted1 {E : XEnv} {d : Nat} {w : XO} {v : Option Value} {f : Nat → Int32} (hG : xGl E) (cx : CX d w E mX9_acted) : ∀ n i {σ : XSt}, i + n = 690 → (∀ j, j < i → σ 3 j = f (j + 230)) → (∀ j, i ≤ j → σ 3 j = f j) → (∀ τ, (∀ j, j < 690 → τ 3 j = f (j + 230)) → (∀ j, 690 ≤ j → τ 3 j = f j) → (∀ k, k ≠ 3 → τ k = σ k) → XG w E 39 [some (.ref (xad E 0)), v, some (.int (nI 690))] [] τ) → XG w E 10 [some (.ref (xad E 0)), v, some (.int (nI i))] [] σ := by
  have g0 := hG.1
  have g1 := hG.2.1
  have g2 := hG.2.2.1
  have g3 := hG.2.2.2.1
  have g4 := hG.2.2.2.2.1
  have g5 := hG.2.2.2.2.2.1
  have g6 := hG.2.2.2.2.2.2.1
  have g7 := hG.2.2.2.2.2.2.2.1
  intro n
  induction n with
  | zero =>
    intro i σ hi hj0 hj1 h
    obtain rfl : i = 690 := by omega
    refine xr_iload_2 cx dX9_acted_10 ?_
    refine xr_sipush (v := 690) cx dX9_acted_11 (by decide) ?_
    refine xr_icmp_ge (tgt := 39) cx dX9_acted_14 (by decide) (fun cq14 => ?_) (fun cq14 => ?_)
    · exact h _ hj0 hj1 (fun k _ => rfl)
    · exact absurd (nI_le (a := 690) (b := 690) (by decide) (by decide)) cq14
  | succ n ih =>
    intro i σ hi hj0 hj1 h
    refine xr_iload_2 cx dX9_acted_10 ?_
    refine xr_sipush (v := 690) cx dX9_acted_11 (by decide) ?_
    refine xr_icmp_ge (tgt := 39) cx dX9_acted_14 (by decide) (fun cq14 => ?_) (fun cq14 => ?_)
    · exact absurd cq14 (nI_ge (a := i) (b := 690) (by omega) (by decide))
    · refine xr_aload_0 cx dX9_acted_17 ?_
      refine xr_getR cx dX9_acted_18 fl_X9_16 g0 rfl ?_
      refine xr_iload_2 cx dX9_acted_21 ?_
      refine xr_aload_0 cx dX9_acted_22 ?_
      refine xr_getR cx dX9_acted_23 fl_X9_16 g0 rfl ?_
      refine xr_iload_2 cx dX9_acted_26 ?_
      refine xr_sipush (v := 230) cx dX9_acted_27 (by decide) ?_
      refine xr_iadd cx dX9_acted_30 ?_
      refine xr_ialdN (j := i + 230) cx dX9_acted_31 g3 (nI_add i 230) (by omega) (by decide) ?_
      refine xr_iastN (j := i) cx dX9_acted_32 g3 rfl (by omega) (by decide) ?_
      refine xr_iinc_2 (y := 1) cx dX9_acted_33 (by decide) ?_
      refine xr_goto (tgt := 10) cx dX9_acted_36 (by decide) ?_
      rw [nI_1]
      exact ih (i + 1) (by omega) (fun j hj => by
        rw [su_same]
        by_cases e : j = i
        · subst e; rw [upd_same]; exact hj1 (j + 230) (by omega)
        · rw [upd_ne _ _ e]; exact hj0 j (by omega)) (fun j hj => by rw [su_same, upd_ne _ _ (by omega)]; exact hj1 j (by omega)) (fun τ r1 r2 r3 => h τ r1 r2 (fun k hk => (r3 k hk).trans (su_ne _ _ hk)))
theorem lp_X9_acted2 {E : XEnv} {d m : Nat} {w : XO} {v : Option Value} {f c : Nat → Int32} (hG : xGl E) (hm3 : m < 4) (cx : CX d w E mX9_acted) : ∀ n i {σ : XSt}, i + n = 230 → σ 0 3 = nI m → (∀ j, j < i → σ 3 (230 * m + j) = c j) → (∀ j, j < 230 * m → σ 3 j = f j) → σ 2 = c → (∀ τ, (∀ j, j < 230 → τ 3 (230 * m + j) = c j) → (∀ j, j < 230 * m → τ 3 j = f j) → (∀ k, k ≠ 3 → τ k = σ k) → XG w E 85 [some (.ref (xad E 0)), v, some (.int (nI 230))] [] τ) → XG w E 51 [some (.ref (xad E 0)), v, some (.int (nI i))] [] σ := by
  have g0 := hG.1
  have g1 := hG.2.1
  have g2 := hG.2.2.1
  have g3 := hG.2.2.2.1
  have g4 := hG.2.2.2.2.1
  have g5 := hG.2.2.2.2.2.1
  have g6 := hG.2.2.2.2.2.2.1
  have g7 := hG.2.2.2.2.2.2.2.1
  intro n
  induction n with
  | zero =>
    intro i σ hi hm hj0 hj1 hk h
    obtain rfl : i = 230 := by omega
    refine xr_iload_2 cx dX9_acted_51 ?_
    refine xr_sipush (v := 230) cx dX9_acted_52 (by decide) ?_
    refine xr_icmp_ge (tgt := 85) cx dX9_acted_55 (by decide) (fun cq55 => ?_) (fun cq55 => ?_)
    · exact h _ hj0 hj1 (fun k _ => rfl)
    · exact absurd (nI_le (a := 230) (b := 230) (by decide) (by decide)) cq55
  | succ n ih =>
    intro i σ hi hm hj0 hj1 hk h
    refine xr_iload_2 cx dX9_acted_51 ?_
    refine xr_sipush (v := 230) cx dX9_acted_52 (by decide) ?_
    refine xr_icmp_ge (tgt := 85) cx dX9_acted_55 (by decide) (fun cq55 => ?_) (fun cq55 => ?_)
    · exact absurd cq55 (nI_ge (a := i) (b := 230) (by omega) (by decide))
    · refine xr_aload_0 cx dX9_acted_58 ?_
      refine xr_getR cx dX9_acted_59 fl_X9_16 g0 rfl ?_
      refine xr_sipush (v := 230) cx dX9_acted_62 (by decide) ?_
      refine xr_aload_0 cx dX9_acted_65 ?_
      refine xr_getI cx dX9_acted_66 fl_X9_31 g0 rfl ?_
      rw [hm]
      refine xr_imul cx dX9_acted_69 ?_
      refine xr_iload_2 cx dX9_acted_70 ?_
      refine xr_iadd cx dX9_acted_71 ?_
      refine xr_aload_0 cx dX9_acted_72 ?_
      refine xr_getR cx dX9_acted_73 fl_X9_13 g0 rfl ?_
      refine xr_iload_2 cx dX9_acted_76 ?_
      refine xr_ialdN (j := i) cx dX9_acted_77 g2 rfl (by omega) (by decide) ?_
      refine xr_iastN (j := 230 * m + i) cx dX9_acted_78 g3 (by rw [show (230 : Int32) * nI m = nI (230 * m) from pk_mul 230 m]; exact nI_add _ _) (by omega) (by decide) ?_
      refine xr_iinc_2 (y := 1) cx dX9_acted_79 (by decide) ?_
      refine xr_goto (tgt := 51) cx dX9_acted_82 (by decide) ?_
      rw [nI_1]
      exact ih (i + 1) (by omega) (by rw [su_ne _ _ (by decide)]; exact hm) (fun j hj => by
        rw [su_same]
        by_cases e : j = i
        · subst e; rw [upd_same, hk]
        · rw [upd_ne _ _ (by omega)]; exact hj0 j (by omega)) (fun j hj => by rw [su_same, upd_ne _ _ (by omega)]; exact hj1 j hj) (by rw [su_ne _ _ (by decide)]; exact hk) (fun τ r1 r2 r3 => h τ r1 r2 (fun k hk => (r3 k hk).trans (su_ne _ _ hk)))
theorem MRel_act {σ τ : XSt} {a c : Nat → Int32} {hl : List (Nat → Int32)} {sn : Option (Nat → Int32)} {t : Nat → Int32} {L m : Nat} (h : MRel σ c hl sn t L) (hm : m = if hl.length = 4 then 3 else hl.length) (h1 : ∀ j, j < 230 → τ 3 (230 * m + j) = a j) (h2 : ∀ j, j < 230 * m → τ 3 j = if hl.length = 4 then σ 3 (j + 230) else σ 3 j) (h0 : τ 0 3 = nI (m + 1)) (h00 : ∀ j, j ≠ 3 → τ 0 j = σ 0 j) (hf : ∀ k, k ≠ 0 → k ≠ 3 → τ k = σ k) : MRel τ c (hpush hl a) sn t L := by
  obtain ⟨q1, ⟨q2, q3, q4⟩, q5, q6⟩ := h
  refine ⟨(hf 1 (by decide) (by decide)).trans q1, ⟨?_, ?_, fun i e hi j hj => ?_⟩, MS_fr q5 (h00 5 (by decide)) (hf 4 (by decide) (by decide)), MT_fr q6 (h00 7 (by decide)) (hf 5 (by decide) (by decide))⟩
  · rw [h0]
    unfold hpush
    by_cases c4 : hl.length = 4
    · rw [if_pos c4] at hm ⊢; rw [hm]; simp [c4]
    · rw [if_neg c4] at hm ⊢; rw [hm]; simp
  · unfold hpush
    by_cases c4 : hl.length = 4
    · rw [if_pos c4]; simp [c4]
    · rw [if_neg c4]; simp; omega
  · unfold hpush at hi
    by_cases c4 : hl.length = 4
    · rw [if_pos c4] at hm hi
      subst hm
      have hi2 := (List.getElem?_eq_some_iff.mp hi).1
      have hlen : (hl.tail ++ [a]).length = 4 := by simp [c4]
      by_cases h3 : i < 3
      · rw [List.getElem?_append_left (by simp; omega), List.getElem?_tail] at hi
        rw [h2 _ (by omega), if_pos c4, show 230 * i + j + 230 = 230 * (i + 1) + j by omega]
        exact q4 (i + 1) e hi j hj
      · have e3 : i = 3 := by omega
        subst e3
        rw [List.getElem?_append_right (by simp; omega)] at hi
        simp [c4] at hi
        subst hi
        exact h1 j hj
    · rw [if_neg c4] at hm hi
      subst hm
      have hi2 := (List.getElem?_eq_some_iff.mp hi).1
      by_cases h3 : i < hl.length
      · rw [List.getElem?_append_left h3] at hi
        have : 230 * i + 230 ≤ 230 * hl.length := by
          have := Nat.mul_le_mul_left 230 (show i + 1 ≤ hl.length from h3)
          omega
        rw [h2 _ (by omega), if_neg c4]
        exact q4 i e hi j hj
      · have e3 : i = hl.length := by simp at hi2; omega
        subst e3
        simp at hi
        subst hi
        exact h1 j hj
theorem m_X9_acted_l {l : Launch} {E : XEnv} {d : Nat} {σ : XSt} {a : Nat → Int32} {Q : Int32 → XSt → Prop} (hG : xGl E) {hl : List (Nat → Int32)} {sn : Option (Nat → Int32)} {t c : Nat → Int32} {L : Nat} {x : Int32} (hM : MRel σ c hl sn t L) (hk : σ 2 = a) (h4 : ¬ hl.length = 4) (h : ∀ τ, MRel τ c (hpush hl a) sn t L → (∀ k, 8 ≤ k → τ k = σ k) → Q x τ) : XMi l E d mX9_acted [.ref (xad E 0), .int x] σ Q := by
  have g0 := hG.1
  have g1 := hG.2.1
  have g2 := hG.2.2.1
  have g3 := hG.2.2.2.1
  have g4 := hG.2.2.2.2.1
  have g5 := hG.2.2.2.2.2.1
  have g6 := hG.2.2.2.2.2.2.1
  have g7 := hG.2.2.2.2.2.2.2.1
  refine xr_entry (lv := [some (.ref (xad E 0)), some (.int x), none]) (by decide +kernel) (by simp [Value.category]) (Nat.le_of_ble_eq_true rfl) rfl (fun w hw cx cz => ?_)
  subst hw
  refine xr_aload_0 cx dX9_acted_0 ?_
  refine xr_getI cx dX9_acted_1 fl_X9_31 g0 rfl ?_
  refine xr_iconst (v := 4) cx dX9_acted_4 (by decide) ?_
  rw [hM.2.1.1]
  refine xr_icmp_ne (tgt := 49) cx dX9_acted_5 (by decide) (fun cq5 => ?_) (fun cq5 => ?_)
  · refine xr_iconst (v := 0) cx dX9_acted_49 (by decide) ?_
    refine xr_istore_2 cx dX9_acted_50 ?_
    refine lp_X9_acted2 (m := hl.length) (f := σ 3) (c := a) hG (by have := hM.2.1.2.1; omega) cx 230 0 rfl hM.2.1.1 (fun j hj => absurd hj (Nat.not_lt_zero j)) (fun j _ => rfl) hk (fun τ r1 r2 r3 => ?_)
    refine xr_aload_0 cx dX9_acted_85 ?_
    refine xr_dup cx dX9_acted_86 rfl ?_
    refine xr_getI cx dX9_acted_87 fl_X9_31 g0 rfl ?_
    refine xr_iconst (v := 1) cx dX9_acted_90 (by decide) ?_
    rw [r3 0 (by decide), hM.2.1.1]
    refine xr_iadd cx dX9_acted_91 ?_
    rw [nI_1]
    refine xr_putI cx dX9_acted_92 fp_X9_31 g0 rfl ?_
    refine xr_iload_1 cx dX9_acted_95 ?_
    refine xr_iret cx cz dX9_acted_96 rfl ?_
    exact h _ (MRel_act hM (m := hl.length) (if_neg h4).symm (fun j hj => by rw [su_ne _ _ (by decide)]; exact r1 j hj) (fun j hj => by rw [su_ne _ _ (by decide), r2 j hj, if_neg h4]) (by rw [su_same, upd_same]) (fun j hj => by rw [su_same, upd_ne _ _ hj, r3 0 (by decide)]) (fun k h1 h2 => by rw [su_ne _ _ h1, r3 k h2])) (fun k hk => by rw [su_ne _ _ (by omega), r3 k (by omega)])
  · exact absurd (nI_inj (by have := hM.2.1.2.1; omega) (by decide) cq5) h4
theorem m_X9_acted_f {l : Launch} {E : XEnv} {d : Nat} {σ : XSt} {a : Nat → Int32} {Q : Int32 → XSt → Prop} (hG : xGl E) {hl : List (Nat → Int32)} {sn : Option (Nat → Int32)} {t c : Nat → Int32} {L : Nat} {x : Int32} (hM : MRel σ c hl sn t L) (hk : σ 2 = a) (h4 : hl.length = 4) (h : ∀ τ, MRel τ c (hpush hl a) sn t L → (∀ k, 8 ≤ k → τ k = σ k) → Q x τ) : XMi l E d mX9_acted [.ref (xad E 0), .int x] σ Q := by
  have g0 := hG.1
  have g1 := hG.2.1
  have g2 := hG.2.2.1
  have g3 := hG.2.2.2.1
  have g4 := hG.2.2.2.2.1
  have g5 := hG.2.2.2.2.2.1
  have g6 := hG.2.2.2.2.2.2.1
  have g7 := hG.2.2.2.2.2.2.2.1
  refine xr_entry (lv := [some (.ref (xad E 0)), some (.int x), none]) (by decide +kernel) (by simp [Value.category]) (Nat.le_of_ble_eq_true rfl) rfl (fun w hw cx cz => ?_)
  subst hw
  refine xr_aload_0 cx dX9_acted_0 ?_
  refine xr_getI cx dX9_acted_1 fl_X9_31 g0 rfl ?_
  refine xr_iconst (v := 4) cx dX9_acted_4 (by decide) ?_
  rw [hM.2.1.1]
  refine xr_icmp_ne (tgt := 49) cx dX9_acted_5 (by decide) (fun cq5 => ?_) (fun cq5 => ?_)
  · exact absurd (by rw [h4]; rfl) cq5
  · refine xr_iconst (v := 0) cx dX9_acted_8 (by decide) ?_
    refine xr_istore_2 cx dX9_acted_9 ?_
    refine lp_X9_acted1 (f := σ 3) hG cx 690 0 rfl (fun j hj => absurd hj (Nat.not_lt_zero j)) (fun j _ => rfl) (fun ρ u1 u2 u3 => ?_)
    refine xr_aload_0 cx dX9_acted_39 ?_
    refine xr_dup cx dX9_acted_40 rfl ?_
    refine xr_getI cx dX9_acted_41 fl_X9_31 g0 rfl ?_
    refine xr_iconst (v := 1) cx dX9_acted_44 (by decide) ?_
    rw [u3 0 (by decide), hM.2.1.1, h4]
    refine xr_isub cx dX9_acted_45 ?_
    rw [show nI 4 - 1 = nI 3 from nI_pred 3]
    refine xr_putI cx dX9_acted_46 fp_X9_31 g0 rfl ?_
    refine xr_iconst (v := 0) cx dX9_acted_49 (by decide) ?_
    refine xr_istore_2 cx dX9_acted_50 ?_
    refine lp_X9_acted2 (m := 3) (f := fun j => σ 3 (j + 230)) (c := a) hG (by decide) cx 230 0 rfl (by rw [su_same, upd_same]) (fun j hj => absurd hj (Nat.not_lt_zero j)) (fun j hj => by rw [su_ne _ _ (by decide)]; exact u1 j (by omega)) (by rw [su_ne _ _ (by decide), u3 2 (by decide)]; exact hk) (fun τ r1 r2 r3 => ?_)
    refine xr_aload_0 cx dX9_acted_85 ?_
    refine xr_dup cx dX9_acted_86 rfl ?_
    refine xr_getI cx dX9_acted_87 fl_X9_31 g0 rfl ?_
    refine xr_iconst (v := 1) cx dX9_acted_90 (by decide) ?_
    rw [r3 0 (by decide), su_same, upd_same]
    refine xr_iadd cx dX9_acted_91 ?_
    rw [nI_1]
    refine xr_putI cx dX9_acted_92 fp_X9_31 g0 rfl ?_
    refine xr_iload_1 cx dX9_acted_95 ?_
    refine xr_iret cx cz dX9_acted_96 rfl ?_
    exact h _ (MRel_act hM (m := 3) (if_pos h4).symm (fun j hj => by rw [su_ne _ _ (by decide)]; exact r1 j hj) (fun j hj => by rw [su_ne _ _ (by decide), r2 j hj, if_pos h4]) (by rw [su_same, upd_same]) (fun j hj => by rw [su_same, upd_ne _ _ hj, r3 0 (by decide), su_same, upd_ne _ _ hj, u3 0 (by decide)]) (fun k h1 h2 => by rw [su_ne _ _ h1, r3 k h2, su_ne _ _ h1, u3 k h2])) (fun k hk => by rw [su_ne _ _ (by omega), r3 k (by omega), su_ne _ _ (by omega), u3 k (by omega)])
theorem m_X9_acted {l : Launch} {E : XEnv} {d : Nat} {σ : XSt} {a : Nat → Int32} {Q : Int32 → XSt → Prop} (hG : xGl E) {hl : List (Nat → Int32)} {sn : Option (Nat → Int32)} {t c : Nat → Int32} {L : Nat} {x : Int32} (hM : MRel σ c hl sn t L) (hk : σ 2 = a) (h : ∀ τ, MRel τ c (hpush hl a) sn t L → (∀ k, 8 ≤ k → τ k = σ k) → Q x τ) : XMi l E d mX9_acted [.ref (xad E 0), .int x] σ Q := by
  by_cases h4 : hl.length = 4
  · exact m_X9_acted_f hG hM hk h4 h
  · exact m_X9_acted_l hG hM hk h4 h
