def xGl (E : XEnv) : Prop := E.2.1[0]? = some (.inl (8, [some 1, some 22, some 43, some 64, some 150, none])) ∧ E.2.1[64]? = some (.inl (1, [some 65, none, none])) ∧ E.2.1[65]? = some (.inr (.inr [66, 87, 108, 129])) ∧ E.2.1[150]? = some (.inl (4, [some 151, some 153, none, none, some 155, none, none, none])) ∧ E.2.1[151]? = some (.inl (5, [some 152])) ∧ E.2.1[152]? = some (.inr (.inl (0, 30))) ∧ E.2.1[153]? = some (.inl (5, [some 154])) ∧ E.2.1[154]? = some (.inr (.inl (0, 30))) ∧ E.2.1[155]? = some (.inr (.inl (1, 60))) ∧ xLec E 1 ∧ xLec E 22 ∧ xLec E 43 ∧ xLec E 66 ∧ xLec E 87 ∧ xLec E 108 ∧ xLec E 129
theorem xGl_ring {E : XEnv} (hG : xGl E) {x : Nat} (hx : x < 4) : xLec E (66 + 21 * x) := by
  obtain ⟨g8, g72, g73, g158, g159, g160, g161, g162, g163, L9, L30, L51, L74, L95, L116, L137⟩ := id hG
  rcases (show x = 0 ∨ x = 1 ∨ x = 2 ∨ x = 3 by omega) with rfl | rfl | rfl | rfl
  · exact L74
  · exact L95
  · exact L116
  · exact L137
/-- the states of the history, the oldest first, behind one more -/
def hpush (hl : List (Nat → Int32)) (a : Nat → Int32) : List (Nat → Int32) := (if hl.length = 4 then hl.tail else hl) ++ [a]
def CH (σ : XSt) (hl : List (Nat → Int32)) : Prop := ∃ x, x < 4 ∧ σ 64 1 = nI x ∧ σ 64 2 = nI hl.length ∧ hl.length ≤ 4 ∧ ∀ i c, hl[i]? = some c → RB σ (66 + 21 * ((x + 4 - hl.length + i) % 4)) c ∧ xInv c
def CS (σ : XSt) (sn : Option (Nat → Int32)) : Prop := match sn with
  | none => σ 0 5 = 0
  | some c => σ 0 5 = 1 ∧ RB σ 43 c ∧ xInv c
/-- the class's cells hold the row a now, the rows hl in the history, sn in the snapshot -/
def CRel (σ : XSt) (a : Nat → Int32) (hl : List (Nat → Int32)) (sn : Option (Nat → Int32)) : Prop := RB σ 1 a ∧ xInv a ∧ CH σ hl ∧ CS σ sn
theorem CH_fr {σ τ : XSt} {hl : List (Nat → Int32)} (h : CH σ hl) (hf : ∀ c, 64 ≤ c → c < 150 → τ c = σ c) : CH τ hl := by
  obtain ⟨x, h1, h2, h3, h4, h5⟩ := h
  refine ⟨x, h1, by rw [hf 64 (by decide) (by decide)]; exact h2, by rw [hf 64 (by decide) (by decide)]; exact h3, h4, fun i c hi => ?_⟩
  obtain ⟨q1, q2⟩ := h5 i c hi
  exact ⟨RB_fr q1 (fun j hj => hf _ (by omega) (by omega)), q2⟩
theorem CS_fr {σ τ : XSt} {sn : Option (Nat → Int32)} (h : CS σ sn) (h8 : τ 0 5 = σ 0 5) (hf : ∀ c, 43 ≤ c → c < 64 → τ c = σ c) : CS τ sn := by
  cases sn with
  | none => exact h8.trans h
  | some c => exact ⟨h8.trans h.1, RB_fr h.2.1 (fun j hj => hf _ (by omega) (by omega)), h.2.2⟩
theorem CRel_now {σ τ : XSt} {a a2 : Nat → Int32} {hl : List (Nat → Int32)} {sn : Option (Nat → Int32)} (h : CRel σ a hl sn) (hR : RB τ 1 a2) (hI : xInv a2) (hf : xfr σ τ 1) : CRel τ a2 hl sn :=
  ⟨hR, hI, CH_fr h.2.2.1 (fun c h1 h2 => hf c (by omega)), CS_fr h.2.2.2 (congrFun (hf 0 (by decide)) 5) (fun c h1 h2 => hf c (by omega))⟩
theorem CRel_fr {σ τ : XSt} {a : Nat → Int32} {hl : List (Nat → Int32)} {sn : Option (Nat → Int32)} (h : CRel σ a hl sn) (hf : ∀ c, 0 ≤ c → c < 150 → ¬ (22 ≤ c ∧ c < 43) → τ c = σ c) : CRel τ a hl sn :=
  ⟨RB_fr h.1 (fun j hj => hf _ (by omega) (by omega) (by omega)), h.2.1, CH_fr h.2.2.1 (fun c h1 h2 => hf c (by omega) (by omega) (by omega)), CS_fr h.2.2.2 (congrFun (hf 0 (by decide) (by decide) (by decide)) 5) (fun c h1 h2 => hf c (by omega) (by omega) (by omega))⟩
theorem nI_min4 {h : Nat} (hh : h < 2 ^ 30) : (if (4 : Int32) < nI (h + 1) then 4 else nI (h + 1)) = nI (min (h + 1) 4) := by
  by_cases c : 4 < h + 1
  · rw [if_pos (show (4 : Int32) < nI (h + 1) from nI_lt (a := 4) c (by omega)), show min (h + 1) 4 = 4 by omega]; rfl
  · rw [if_neg (show ¬ (4 : Int32) < nI (h + 1) from nI_nlt (b := h + 1) (a := 4) (by omega) (by decide)), show min (h + 1) 4 = h + 1 by omega]
def xrec (x h : Nat) (σ : XSt) : XSt := su (xcpL (66 + 21 * x) 1 σ) 64 (upd (upd (σ 64) 1 (nI ((x + 1) % 4))) 2 (nI (min (h + 1) 4)))
theorem xrec_in {x h : Nat} {σ : XSt} {y : Nat} (hy : y < 4) (hx : x < 4) (i : Nat) (hi : i < 21) : xrec x h σ (66 + 21 * y + i) = xcpL (66 + 21 * x) 1 σ (66 + 21 * y + i) := su_ne _ _ (by omega)
theorem CRel_rec {σ : XSt} {a : Nat → Int32} {hl : List (Nat → Int32)} {sn : Option (Nat → Int32)} {x : Nat} (hx : x < 4) (hn : σ 64 1 = nI x) (h : CRel σ a hl sn) (hl4 : hl.length ≤ 4) (hR : ∀ i c, hl[i]? = some c → RB σ (66 + 21 * ((x + 4 - hl.length + i) % 4)) c ∧ xInv c) :
    CRel (xrec x hl.length σ) a (hpush hl a) sn ∧ ∀ c, (c < 64 ∨ 150 ≤ c) → xrec x hl.length σ c = σ c := by
  have hfr : ∀ c, (c < 64 ∨ 150 ≤ c) → xrec x hl.length σ c = σ c := fun c hc => by
    unfold xrec
    rw [su_ne _ _ (by omega), xfr_cpL (b := 66 + 21 * x) c (by omega)]
  refine ⟨⟨RB_fr h.1 (fun i hi => hfr _ (by omega)), h.2.1, ?_, CS_fr h.2.2.2 (congrFun (hfr 0 (by decide)) 5) (fun c h1 h2 => hfr c (by omega))⟩, hfr⟩
  have hlen : (hpush hl a).length = min (hl.length + 1) 4 := by
    unfold hpush
    split
    · simp; omega
    · simp; omega
  have hnew : RB (xrec x hl.length σ) (66 + 21 * x) a := RB_fr (RB_cpL h.1 (by omega)) (fun i hi => xrec_in hx hx i hi)
  have hold : ∀ y c, y < 4 → y ≠ x → RB σ (66 + 21 * y) c → RB (xrec x hl.length σ) (66 + 21 * y) c := fun y c hy hyx hc => RB_fr hc (fun i hi => by
    rw [xrec_in hy hx i hi]
    exact xfr_cpL (b := 66 + 21 * x) _ (by omega))
  refine ⟨(x + 1) % 4, by omega, by unfold xrec; rw [su_same, upd_ne _ _ (by decide), upd_same], by rw [hlen]; unfold xrec; rw [su_same, upd_same], by omega, fun i c hi => ?_⟩
  rw [hlen]
  unfold hpush at hi
  by_cases h4 : hl.length = 4
  · rw [if_pos h4] at hi
    by_cases h3 : i < 3
    · rw [List.getElem?_append_left (by simp; omega), List.getElem?_tail] at hi
      obtain ⟨q1, q2⟩ := hR (i + 1) c hi
      refine ⟨?_, q2⟩
      have e : (x + 4 - hl.length + (i + 1)) % 4 = ((x + 1) % 4 + 4 - min (hl.length + 1) 4 + i) % 4 := by omega
      rw [← e]
      exact hold _ c (by omega) (by omega) q1
    · have hl3 : (hl.tail ++ [a]).length = 4 := by simp; omega
      have hi2 := (List.getElem?_eq_some_iff.mp hi).1
      have e3 : i = 3 := by omega
      subst e3
      rw [List.getElem?_append_right (by simp; omega)] at hi
      simp [h4] at hi
      subst hi
      refine ⟨?_, h.2.1⟩
      rw [show ((x + 1) % 4 + 4 - min (hl.length + 1) 4 + 3) % 4 = x by omega]
      exact hnew
  · rw [if_neg h4] at hi
    by_cases h3 : i < hl.length
    · rw [List.getElem?_append_left h3] at hi
      obtain ⟨q1, q2⟩ := hR i c hi
      refine ⟨?_, q2⟩
      have e : (x + 4 - hl.length + i) % 4 = ((x + 1) % 4 + 4 - min (hl.length + 1) 4 + i) % 4 := by omega
      rw [← e]
      exact hold _ c (by omega) (by omega) q1
    · have hi2 := (List.getElem?_eq_some_iff.mp hi).1
      have e3 : i = hl.length := by simp at hi2; omega
      subst e3
      simp at hi
      subst hi
      refine ⟨?_, h.2.1⟩
      rw [show ((x + 1) % 4 + 4 - min (hl.length + 1) 4 + hl.length) % 4 = x by omega]
      exact hnew
theorem ring_at {i : Nat} (h : i < 4) : ([66, 87, 108, 129] : List Nat)[i]? = some (66 + 21 * i) := by
  rcases (show i = 0 ∨ i = 1 ∨ i = 2 ∨ i = 3 by omega) with rfl | rfl | rfl | rfl <;> rfl
theorem m_X1_stateAt {l : Launch} {E : XEnv} {d i : Nat} {σ : XSt} {Q : Option Nat → XSt → Prop} (hG : xGl E) (hi : i < 4) (h : Q (some (66 + 21 * i)) σ) : XMr l E d mX1_stateAt [.ref (xad E 64), .int (nI i)] σ Q := by
  obtain ⟨g8, g72, g73, g158, g159, g160, g161, g162, g163, L9, L30, L51, L74, L95, L116, L137⟩ := id hG
  refine xr_entry (lv := [some (.ref (xad E 64)), some (.int (nI i))]) (by decide +kernel) (by simp [Value.category]) (Nat.le_of_ble_eq_true rfl) rfl (fun w hw cx cz => ?_)
  subst hw
  refine xr_iload_1 cx dX1_stateAt_0 ?_
  refine xr_if_lt (tgt := 22) cx dX1_stateAt_1 (by decide) (fun cq1 => ?_) (fun cq1 => ?_)
  · exact absurd cq1 (nI_pos (by omega))
  · refine xr_iload_1 cx dX1_stateAt_4 ?_
    refine xr_aload_0 cx dX1_stateAt_5 ?_
    refine xr_getR cx dX1_stateAt_6 fl_X1_11 g72 rfl ?_
    refine xr_alenq cx dX1_stateAt_9 g73 ?_
    refine xr_icmp_ge (tgt := 22) cx dX1_stateAt_10 (by decide) (fun cq10 => ?_) (fun cq10 => ?_)
    · exact absurd cq10 (nI_ge (a := i) (b := 4) hi (by decide))
    · refine xr_aload_0 cx dX1_stateAt_13 ?_
      refine xr_getR cx dX1_stateAt_14 fl_X1_11 g72 rfl ?_
      refine xr_iload_1 cx dX1_stateAt_17 ?_
      refine xr_aald cx dX1_stateAt_18 g73 (vp_in_nI hi (by decide)) ?_
      refine xr_goto (tgt := 23) cx dX1_stateAt_19 (by decide) ?_
      rw [nI_clamp (by omega), ring_at hi]
      refine xr_aret (z := some (66 + 21 * i)) cx cz dX1_stateAt_23 rfl ?_
      exact h
theorem m_X1_record {l : Launch} {E : XEnv} {d : Nat} {σ : XSt} {Q : XSt → Prop} {a : Nat → Int32} {hl : List (Nat → Int32)} {sn : Option (Nat → Int32)} (hG : xGl E) (hC : CRel σ a hl sn) (h : ∀ τ, CRel τ a (hpush hl a) sn → (∀ c, (c < 64 ∨ 150 ≤ c) → τ c = σ c) → Q τ) : XMv l E (d + 4) mX1_record [.ref (xad E 64), .ref (xad E 1)] σ Q := by
  obtain ⟨g8, g72, g73, g158, g159, g160, g161, g162, g163, L9, L30, L51, L74, L95, L116, L137⟩ := id hG
  obtain ⟨x, hx, hn, hs, h4, hr⟩ := id hC.2.2.1
  obtain ⟨hq1, hq2⟩ := CRel_rec hx hn hC h4 hr
  have p0 := (xGl_ring hG hx).1
  refine xr_entry (lv := [some (.ref (xad E 64)), some (.ref (xad E 1)), none]) (by decide +kernel) (by simp [Value.category]) (Nat.le_of_ble_eq_true rfl) rfl (fun w hw cx cz => ?_)
  subst hw
  refine xr_aload_0 cx dX1_record_0 ?_
  refine xr_aload_0 cx dX1_record_1 ?_
  refine xr_getI cx dX1_record_2 fl_X1_18 g72 rfl ?_
  rw [hn]
  refine xr_V1r (ν := mX1_stateAt) cx dX1_record_5 rfl ml_X1_22 vf_X1_stateAt g72 (Nat.le_of_ble_eq_true rfl) (m_X1_stateAt hG hx ?_)
  show XG _ _ _ _ [.ref (xad E (66 + 21 * x))] _
  refine xr_astore_2 cx dX1_record_8 ?_
  refine xr_aload_2 cx dX1_record_9 ?_
  refine xr_ifnull cx dX1_record_10 ?_
  refine xr_aload_2 cx dX1_record_13 ?_
  refine xr_aload_1 cx dX1_record_14 ?_
  refine xr_V1v (ν := mX2_copyFrom) cx dX1_record_15 rfl ml_X1_26 vf_X2_copyFrom p0 (Nat.le_of_ble_eq_true rfl) (m_X2_copyFrom (xGl_ring hG hx) L9 (by omega) ?_)
  refine xr_aload_0 cx dX1_record_18 ?_
  refine xr_aload_0 cx dX1_record_19 ?_
  refine xr_getI cx dX1_record_20 fl_X1_18 g72 rfl ?_
  rw [xfr_cpL (b := 66 + 21 * x) 64 (Or.inl (by omega)), hn]
  refine xr_iconst (v := 1) cx dX1_record_23 (by decide) ?_
  refine xr_iadd cx dX1_record_24 ?_
  rw [nI_1]
  refine xr_iconst (v := 4) cx dX1_record_25 (by decide) ?_
  refine xr_irem cx dX1_record_26 (by decide) ?_
  rw [show nI (x + 1) - nI (x + 1) / 4 * 4 = nI ((x + 1) % 4) from pk_rem (d := 4) (by omega) (by decide) (by decide)]
  refine xr_putI cx dX1_record_27 fp_X1_18 g72 rfl ?_
  refine xr_aload_0 cx dX1_record_30 ?_
  refine xr_aload_0 cx dX1_record_31 ?_
  refine xr_getI cx dX1_record_32 fl_X1_30 g72 rfl ?_
  rw [su_same, xfr_cpL (b := 66 + 21 * x) 64 (Or.inl (by omega)), upd_ne _ _ (by decide), hs]
  refine xr_iconst (v := 1) cx dX1_record_35 (by decide) ?_
  refine xr_iadd cx dX1_record_36 ?_
  rw [nI_1]
  refine xr_iconst (v := 4) cx dX1_record_37 (by decide) ?_
  refine xr_mmin cx dX1_record_38 rfl ml_X1_33 (Nat.le_of_ble_eq_true rfl) ?_
  rw [nI_min4 (by omega)]
  refine xr_putI cx dX1_record_41 fp_X1_30 g72 rfl ?_
  refine xr_vret cx cz dX1_record_44 rfl ?_
  refine q_s (h _ hq1 hq2) ?_
  unfold xrec
  rw [su_su, su_same]
def xtak (x h : Nat) (σ : XSt) : XSt := su (xcpL 1 (66 + 21 * ((x + 3) % 4)) σ) 64 (upd (upd (σ 64) 1 (nI ((x + 3) % 4))) 2 (nI (h - 1)))
theorem CRel_tak {σ : XSt} {a c : Nat → Int32} {hl : List (Nat → Int32)} {sn : Option (Nat → Int32)} {x : Nat} (hx : x < 4) (h : CRel σ a (hl ++ [c]) sn) (hl4 : hl.length + 1 ≤ 4) (hR : ∀ i e, (hl ++ [c])[i]? = some e → RB σ (66 + 21 * ((x + 4 - (hl.length + 1) + i) % 4)) e ∧ xInv e) :
    CRel (xtak x (hl.length + 1) σ) c hl sn ∧ ∀ k, (k < 1 ∨ 150 ≤ k) → xtak x (hl.length + 1) σ k = σ k := by
  have hfr : ∀ k, ¬ (1 ≤ k ∧ k < 22) → k ≠ 64 → xtak x (hl.length + 1) σ k = σ k := fun k hk hk2 => by
    unfold xtak
    rw [su_ne _ _ hk2, xfr_cpL (b := 1) k (by omega)]
  obtain ⟨q1, q2⟩ := hR hl.length c (by simp)
  rw [show (x + 4 - (hl.length + 1) + hl.length) % 4 = (x + 3) % 4 by omega] at q1
  refine ⟨⟨RB_fr (RB_cpL q1 (by omega)) (fun i hi => by unfold xtak; exact su_ne _ _ (by omega)), q2, ?_, CS_fr h.2.2.2 (congrFun (hfr 0 (by decide) (by decide)) 5) (fun k h1 h2 => hfr k (by omega) (by omega))⟩, fun k hk => hfr k (by omega) (by omega)⟩
  refine ⟨(x + 3) % 4, by omega, by unfold xtak; rw [su_same, upd_ne _ _ (by decide), upd_same], by unfold xtak; rw [su_same, upd_same]; rfl, by omega, fun i e hi => ?_⟩
  have hi2 := (List.getElem?_eq_some_iff.mp hi).1
  obtain ⟨r1, r2⟩ := hR i e (by rw [List.getElem?_append_left hi2]; exact hi)
  refine ⟨?_, r2⟩
  rw [show ((x + 3) % 4 + 4 - hl.length + i) % 4 = (x + 4 - (hl.length + 1) + i) % 4 by omega]
  exact RB_fr r1 (fun j hj => hfr _ (by omega) (by omega))
theorem m_X1_takeBack {l : Launch} {E : XEnv} {d : Nat} {σ : XSt} {Q : XSt → Prop} {a c : Nat → Int32} {hl : List (Nat → Int32)} {sn : Option (Nat → Int32)} (hG : xGl E) (hC : CRel σ a (hl ++ [c]) sn) (h : ∀ τ, CRel τ c hl sn → (∀ k, (k < 1 ∨ 150 ≤ k) → τ k = σ k) → Q τ) : XMv l E (d + 4) mX1_takeBack [.ref (xad E 64), .ref (xad E 1)] σ Q := by
  obtain ⟨g8, g72, g73, g158, g159, g160, g161, g162, g163, L9, L30, L51, L74, L95, L116, L137⟩ := id hG
  obtain ⟨x, hx, hn, hs, h4, hr⟩ := id hC.2.2.1
  rw [show (hl ++ [c]).length = hl.length + 1 by simp] at hs h4 hr
  obtain ⟨hq1, hq2⟩ := CRel_tak hx hC h4 hr
  have hx3 : (x + 3) % 4 < 4 := Nat.mod_lt _ (by decide)
  have p0 := (xGl_ring hG hx3).1
  obtain ⟨na0, na1, na2, na3, na4, na5, na6, na7, na8, na9, na10, na11, na12, na13, na14, na15, na16, na17, na18, na19, na20⟩ := id L9
  refine xr_entry (lv := [some (.ref (xad E 64)), some (.ref (xad E 1)), none, none]) (by decide +kernel) (by simp [Value.category]) (Nat.le_of_ble_eq_true rfl) rfl (fun w hw cx cz => ?_)
  subst hw
  refine xr_aload_0 cx dX1_takeBack_0 ?_
  refine xr_getI cx dX1_takeBack_1 fl_X1_18 g72 rfl ?_
  rw [hn]
  refine xr_iconst (v := 4) cx dX1_takeBack_4 (by decide) ?_
  refine xr_iadd cx dX1_takeBack_5 ?_
  rw [show nI x + 4 = nI (x + 4) from nI_add x 4]
  refine xr_iconst (v := 1) cx dX1_takeBack_6 (by decide) ?_
  refine xr_isub cx dX1_takeBack_7 ?_
  rw [show nI (x + 4) - 1 = nI (x + 3) from nI_pred (x + 3)]
  refine xr_iconst (v := 4) cx dX1_takeBack_8 (by decide) ?_
  refine xr_irem cx dX1_takeBack_9 (by decide) ?_
  rw [show nI (x + 3) - nI (x + 3) / 4 * 4 = nI ((x + 3) % 4) from pk_rem (d := 4) (by omega) (by decide) (by decide)]
  refine xr_istore_2 cx dX1_takeBack_10 ?_
  refine xr_aload_0 cx dX1_takeBack_11 ?_
  refine xr_iload_2 cx dX1_takeBack_12 ?_
  refine xr_V1r (ν := mX1_stateAt) cx dX1_takeBack_13 rfl ml_X1_22 vf_X1_stateAt g72 (Nat.le_of_ble_eq_true rfl) (m_X1_stateAt hG hx3 ?_)
  show XG _ _ _ _ [.ref (xad E (66 + 21 * ((x + 3) % 4)))] _
  refine xr_astore_3 cx dX1_takeBack_16 ?_
  refine xr_aload_3 cx dX1_takeBack_17 ?_
  refine xr_ifnull cx dX1_takeBack_18 ?_
  refine xr_aload_0 cx dX1_takeBack_21 ?_
  refine xr_getI cx dX1_takeBack_22 fl_X1_30 g72 rfl ?_
  rw [hs]
  refine xr_if_le (tgt := 48) cx dX1_takeBack_25 (by decide) (fun cq25 => ?_) (fun cq25 => ?_)
  · exact absurd cq25 (nI_nle (by omega) (by omega))
  · refine xr_aload_1 cx dX1_takeBack_28 ?_
    refine xr_aload_3 cx dX1_takeBack_29 ?_
    refine xr_V1v (ν := mX2_copyFrom) cx dX1_takeBack_30 rfl ml_X1_26 vf_X2_copyFrom na0 (Nat.le_of_ble_eq_true rfl) (m_X2_copyFrom L9 (xGl_ring hG hx3) (by omega) ?_)
    refine xr_aload_0 cx dX1_takeBack_33 ?_
    refine xr_iload_2 cx dX1_takeBack_34 ?_
    refine xr_putI cx dX1_takeBack_35 fp_X1_18 g72 rfl ?_
    refine xr_aload_0 cx dX1_takeBack_38 ?_
    refine xr_dup cx dX1_takeBack_39 rfl ?_
    refine xr_getI cx dX1_takeBack_40 fl_X1_30 g72 rfl ?_
    rw [su_same, xfr_cpL (b := 1) 64 (by omega), upd_ne _ _ (by decide), hs]
    refine xr_iconst (v := 1) cx dX1_takeBack_43 (by decide) ?_
    refine xr_isub cx dX1_takeBack_44 ?_
    rw [show nI (hl.length + 1) - 1 = nI (hl.length + 1 - 1) from nI_pred hl.length]
    refine xr_putI cx dX1_takeBack_45 fp_X1_30 g72 rfl ?_
    refine xr_vret cx cz dX1_takeBack_48 rfl ?_
    refine q_s (h _ hq1 hq2) ?_
    unfold xtak
    rw [su_su, su_same]
