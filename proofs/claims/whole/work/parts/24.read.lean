def mPlans (a : Nat → Int32) (ln nd : Nat → Int32) (n i : Nat) : Nat → Int32 := xit (fun k x => mPlan x (ln k) (nd k)) n i a
def pNok (N : Nat) (nd : Nat → Int32) (F : Nat) : Prop := ∀ k, k < F → ∀ b, N + k ≤ b → b < 32 → bt (nd k) b = false
def pGood (N : Nat) (s : PS) : Prop := pNok N s.2.2.2.2 s.2.1 ∧ (s.1 = 3 ∨ s.1 = 4 → ∃ m, s.2.2.1 = nI m ∧ m < N + s.2.1 - 1)
theorem bt_xbitOf {m b : Nat} (hm : m < 100) (hb : b < 32) (h : bt (xbitOf (nI m)) b = true) : b = m := by
  unfold xbitOf at h
  by_cases c : nI m < 0 ∨ 30 ≤ nI m
  · rw [if_pos c, b_0] at h; cases h
  · rw [if_neg c] at h
    have hm30 : m < 30 := by
      rcases Nat.lt_or_ge m 30 with q | q
      · exact q
      · exact absurd (Or.inr (show nI 30 ≤ nI m from nI_le q (by omega))) c
    rw [b_bit (by omega) hb] at h
    simpa using h
theorem pNd_ok {N : Nat} {s : PS} (h : pGood N s) (hb : pBnd s) (hN : N ≤ 30) : pNok N (pNd s) s.2.1 := by
  obtain ⟨b1, b2, b3⟩ := hb
  intro k hk b h1 h2
  unfold pNd
  by_cases c : s.1 = 3 ∨ s.1 = 4
  · rw [if_pos c]
    obtain ⟨m, hm, hm2⟩ := h.2 c
    by_cases e : k = s.2.1 - 1
    · subst e
      rw [upd_same, b_or, h.1 _ hk b h1 h2, Bool.false_or]
      cases hx : bt (xbitOf s.2.2.1) b with
      | false => rfl
      | true =>
        rw [hm] at hx
        have := bt_xbitOf (by omega) h2 hx
        omega
    · rw [upd_ne _ _ e]; exact h.1 k hk b h1 h2
  · rw [if_neg c]; exact h.1 k hk b h1 h2
theorem x_digit {c : Int32} (h : 48 ≤ c ∧ c ≤ 57) : ∃ e, e ≤ 9 ∧ c - 48 = nI e ∧ c = nI (e + 48) := by
  have h0 : ¬ c < 0 := fun q => by
    have := Int32.lt_iff_toInt_lt.mp q
    have h1 := Int32.le_iff_toInt_le.mp h.1
    have e1 : (48 : Int32).toInt = 48 := rfl
    have e2 : (0 : Int32).toInt = 0 := rfl
    omega
  obtain ⟨j, hj, rfl⟩ := nI_of h0
  have h1 : 48 ≤ j := (nI_leI (by decide) hj).mp (show nI 48 ≤ nI j from h.1)
  have h2 : j ≤ 57 := (nI_leI hj (by decide)).mp (show nI j ≤ nI 57 from h.2)
  exact ⟨j - 48, by omega, pk_sub (b := 48) h1, by rw [show j - 48 + 48 = j by omega]⟩
theorem pStep_good {N : Nat} {c : Int32} {s q : PS} (h : pStep N c s = some q) (hg : pGood N s) (hb : pBnd s) (hN : N ≤ 30) : pGood N q := by
  have hnd := pNd_ok hg hb hN
  obtain ⟨b1, b2, b3⟩ := hb
  unfold pStep at h
  by_cases h0 : s.1 = 0
  · rw [if_pos h0] at h
    by_cases hc : c - 48 < 1 ∨ 4 < c - 48
    · rw [if_pos hc] at h; cases h
    · rw [if_neg hc] at h
      cases h
      refine ⟨fun k hk b h1 h2 => ?_, fun z => by rcases z with z | z <;> cases z⟩
      show bt (upd s.2.2.2.2 s.2.1 0 k) b = false
      by_cases e : k = s.2.1
      · subst e; rw [upd_same]; exact b_0 b
      · rw [upd_ne _ _ e]; exact hg.1 k (by have : k < s.2.1 + 1 := hk; omega) b h1 h2
  · rw [if_neg h0] at h
    by_cases h2 : s.1 = 2
    · rw [if_pos h2] at h
      by_cases hc : ¬ (48 ≤ c ∧ c ≤ 57) ∨ nI (N + s.2.1 - 1) ≤ c - 48
      · rw [if_pos hc] at h; cases h
      · rw [if_neg hc] at h
        cases h
        refine ⟨hg.1, fun _ => ?_⟩
        have hd : 48 ≤ c ∧ c ≤ 57 := by by_cases z : 48 ≤ c ∧ c ≤ 57; exact z; exact absurd (Or.inl z) hc
        obtain ⟨e, he, e1, -⟩ := x_digit hd
        refine ⟨e, e1, ?_⟩
        rw [e1] at hc
        rcases Nat.lt_or_ge e (N + s.2.1 - 1) with z | z
        · exact z
        · exact absurd (Or.inr (nI_le z (by omega))) hc
    · rw [if_neg h2] at h
      by_cases h3 : s.1 = 3 ∧ (48 ≤ c ∧ c ≤ 57)
      · rw [if_pos h3] at h
        by_cases hc : nI (N + s.2.1 - 1) ≤ 10 * s.2.2.1 + (c - 48)
        · rw [if_pos hc] at h; cases h
        · rw [if_neg hc] at h
          cases h
          refine ⟨hg.1, fun _ => ?_⟩
          obtain ⟨e, he, e1, -⟩ := x_digit h3.2
          obtain ⟨m, hm, hm2⟩ := hg.2 (Or.inl h3.1)
          refine ⟨10 * m + e, ?_, ?_⟩
          · show 10 * s.2.2.1 + (c - 48) = _
            rw [hm, e1, show (10 : Int32) = nI 10 from rfl, pk_mul, nI_add]
          · rw [hm, e1, show (10 : Int32) = nI 10 from rfl, pk_mul, nI_add] at hc
            rcases Nat.lt_or_ge (10 * m + e) (N + s.2.1 - 1) with z | z
            · exact z
            · exact absurd (nI_le z (by omega)) hc
      · rw [if_neg h3] at h
        by_cases hm : c = 59 ∨ c = (if s.1 = 1 then 60 else 44)
        · rw [if_pos hm] at h
          cases h
          refine ⟨hnd, fun z => ?_⟩
          have : (if c = 59 then 0 else 2 : Nat) ≠ 3 ∧ (if c = 59 then 0 else 2 : Nat) ≠ 4 := by split <;> decide
          rcases z with z | z
          · exact absurd z this.1
          · exact absurd z this.2
        · rw [if_neg hm] at h; cases h
theorem pRun_good {N : Nat} {t : Nat → Int32} (hN : N ≤ 30) : ∀ (n i : Nat) {s q : PS}, i + n ≤ 60 → pRun N t n i s = .inr q → pGood N s → pBnd s → pFit s i → pGood N q ∧ pBnd q
  | 0, i, s, q, _, h, hg, hb, _ => by
    cases h; exact ⟨hg, hb⟩
  | n + 1, i, s, q, hi, h, hg, hb, hf => by
    rw [pRun] at h
    cases hs : pStep N (t i) s with
    | none => rw [hs] at h; cases h
    | some r =>
      rw [hs] at h
      have hr := pStep_bnd hs hb hf (by omega)
      exact pRun_good hN n (i + 1) (by omega) h (pStep_good hs hg hb hN) hr.1 hr.2
theorem mPlan_st {a : Nat → Int32} {x y : Int32} (h : xIx a) (hn : mSt a < 30) : mSt (mPlan a x y) = mSt a + 1 := by
  apply cl_nI
  · unfold mPlan; rw [upd_same, h.1, nI_1]
  · omega
def oRead (a : Nat → Int32) (L : Nat) (r : Nat ⊕ PS) : Int32 × Option (Nat → Int32) := if ¬ pAns L r = -1 then (-100 - pAns L r, none) else match r with
  | .inl _ => (0, none)
  | .inr q => if 30 < a 1 + nI q.2.1 then (-3, none) else (mPlans a q.2.2.2.1 (pNd q) q.2.1 0 1, some (mPlans a q.2.2.2.1 (pNd q) q.2.1 0))
def CRd (σ τ : XSt) (a : Nat → Int32) (hl : List (Nat → Int32)) (sn : Option (Nat → Int32)) (q : Option (Nat → Int32)) : Prop := (τ 158 3 = σ 158 3 ∧ τ 163 = σ 163 ∧ ∀ c, c < 8 → τ c = σ c) ∧ match q with
  | none => CRel τ a hl sn
  | some c => CRel τ c (hpush hl a) sn
theorem CRel_TF {σ τ : XSt} {a : Nat → Int32} {hl : List (Nat → Int32)} {sn : Option (Nat → Int32)} (h : CRel σ a hl sn) (ht : TF σ τ) : CRel τ a hl sn := CRel_fr h (fun c h1 h2 _ => ht.1 c (by omega) (by omega) (by omega))
theorem TF_3 {σ τ : XSt} (ht : TF σ τ) : τ 158 3 = σ 158 3 ∧ τ 163 = σ 163 ∧ ∀ c, c < 8 → τ c = σ c := ⟨ht.2, ht.1 163 (by decide) (by decide) (by decide), fun c hc => ht.1 c (by omega) (by omega) (by omega)⟩
theorem m_X8_readPlan_f {l : Launch} {E : XEnv} {d : Nat} {σ : XSt} {a : Nat → Int32} {hl : List (Nat → Int32)} {sn : Option (Nat → Int32)} {Q : Int32 → XSt → Prop} {L : Nat} (hG : xGl E) (hC : CRel σ a hl sn) (hL60 : L ≤ 60) (hL : σ 158 3 = nI L) (hf : ¬ pAns L (pRun (mSt a) (σ 163) L 0 (0, 0, σ 158 7, σ 160, σ 162)) = -1) (h : ∀ τ, CRd σ τ a hl sn (oRead a L (pRun (mSt a) (σ 163) L 0 (0, 0, σ 158 7, σ 160, σ 162))).2 → Q (oRead a L (pRun (mSt a) (σ 163) L 0 (0, 0, σ 158 7, σ 160, σ 162))).1 τ) : XMi l E (d + 5) mX8_readPlan [.ref (xad E 8)] σ Q := by
  obtain ⟨g0, g1, g2, g3, g4, g5, g6, g7, g8, g72, g73, g158, g159, g160, g161, g162, g163, L9, L30, L51, L74, L95, L116, L137⟩ := id hG
  obtain ⟨na0, na1, na2, na3, na4, na5, na6, na7, na8, na9, na10, na11, na12, na13, na14, na15, na16, na17, na18, na19, na20⟩ := id L9
  obtain ⟨hR, hI, hCH, hCS⟩ := id hC
  obtain ⟨hx, hO, hN, hD, hW, hE, hA⟩ := id hI
  obtain ⟨ix1, ix2, ix3, ix4, iy1, iy2, iy3, iy4⟩ := id hx
  refine xr_entry (lv := [some (.ref (xad E 8)), none, none]) (by decide +kernel) (by simp [Value.category]) (Nat.le_of_ble_eq_true rfl) rfl (fun w hw cx cz => ?_)
  subst hw
  refine xr_aload_0 cx dX8_readPlan_0 ?_
  refine xr_getR cx dX8_readPlan_1 fl_X8_32 g8 rfl ?_
  refine xr_aload_0 cx dX8_readPlan_4 ?_
  refine xr_getR cx dX8_readPlan_5 fl_X8_10 g8 rfl ?_
  refine xr_getR cx dX8_readPlan_8 fl_X8_58 na0 rfl ?_
  refine xr_getI cx dX8_readPlan_11 fl_X8_62 na1 rfl ?_
  rw [RB_planned hR, ix1]
  refine xr_V1i (ν := mX4_read) cx dX8_readPlan_14 rfl ml_X8_71 vf_X4_read g158 (Nat.le_of_ble_eq_true rfl) (m_X4_read hG hL60 hL (fun τ ht hp => ?_))
  refine xr_istore_1 cx dX8_readPlan_17 ?_
  refine xr_iload_1 cx dX8_readPlan_18 ?_
  refine xr_iconst (v := -1) cx dX8_readPlan_19 (by decide) ?_
  refine xr_icmp_eq (tgt := 28) cx dX8_readPlan_20 (by decide) (fun cq20 => ?_) (fun cq20 => ?_)
  · exact absurd cq20 hf
  · refine xr_bipush (v := -100) cx dX8_readPlan_23 (by decide) ?_
    refine xr_iload_1 cx dX8_readPlan_25 ?_
    refine xr_isub cx dX8_readPlan_26 ?_
    refine xr_iret cx cz dX8_readPlan_27 rfl ?_
    unfold oRead at h
    rw [if_pos hf] at h
    exact h τ ⟨TF_3 ht, CRel_TF hC ht⟩
theorem lp_X8_readPlan {E : XEnv} {d N F : Nat} {ln nd : Nat → Int32} {fv : Option Value} {Q : Int32 → XSt → Prop} {w : XO} (hG : xGl E) (hNF : N + F ≤ 30) (hok : pNok N nd F) (cx : CX (d + 5) w E mX8_readPlan) (cz : CZi w E Q) : ∀ n i {σ : XSt} {a : Nat → Int32}, i + n = F → RB σ 9 a → xInv a → mSt a = N + i → σ 158 2 = nI F → σ 160 = ln → σ 162 = nd → (∀ τ, RB τ 9 (mPlans a ln nd n i) → xInv (mPlans a ln nd n i) → xfr σ τ 9 → Q (mPlans a ln nd n i 1) τ) → XG w E 67 [some (.ref (xad E 8)), fv, some (.int (nI i))] [] σ := by
  obtain ⟨g0, g1, g2, g3, g4, g5, g6, g7, g8, g72, g73, g158, g159, g160, g161, g162, g163, L9, L30, L51, L74, L95, L116, L137⟩ := id hG
  obtain ⟨na0, na1, na2, na3, na4, na5, na6, na7, na8, na9, na10, na11, na12, na13, na14, na15, na16, na17, na18, na19, na20⟩ := id L9
  intro n
  induction n with
  | zero =>
    intro i σ a hi hR hI hS hF hl1 hn1 h
    refine xr_iload_2 cx dX8_readPlan_67 ?_
    refine xr_aload_0 cx dX8_readPlan_68 ?_
    refine xr_getR cx dX8_readPlan_69 fl_X8_32 g8 rfl ?_
    refine xr_getI cx dX8_readPlan_72 fl_X8_75 g158 rfl ?_
    rw [hF]
    refine xr_icmp_ge (tgt := 116) cx dX8_readPlan_75 (by decide) (fun cq75 => ?_) (fun cq75 => ?_)
    · refine xr_aload_0 cx dX8_readPlan_116 ?_
      refine xr_getR cx dX8_readPlan_117 fl_X8_10 g8 rfl ?_
      refine xr_getR cx dX8_readPlan_120 fl_X8_58 na0 rfl ?_
      refine xr_getI cx dX8_readPlan_123 fl_X8_62 na1 rfl ?_
      rw [RB_planned hR]
      refine xr_iret cx cz dX8_readPlan_126 rfl ?_
      exact h σ hR hI (xfr_rf σ 9)
    · exact absurd (nI_le (a := F) (b := i) (by omega) (by omega)) cq75
  | succ n ih =>
    intro i σ a hi hR hI hS hF hl1 hn1 h
    obtain ⟨hx, -⟩ := id hI
    have hs30 : mSt a < 30 := by omega
    have hfa : ∀ c, c ≥ 30 → xadd 9 (mSt a) (ln i) (nd i) σ c = σ c := fun c hc => xfr_add (b := 9) c (by omega)
    refine xr_iload_2 cx dX8_readPlan_67 ?_
    refine xr_aload_0 cx dX8_readPlan_68 ?_
    refine xr_getR cx dX8_readPlan_69 fl_X8_32 g8 rfl ?_
    refine xr_getI cx dX8_readPlan_72 fl_X8_75 g158 rfl ?_
    rw [hF]
    refine xr_icmp_ge (tgt := 116) cx dX8_readPlan_75 (by decide) (fun cq75 => ?_) (fun cq75 => ?_)
    · exact absurd cq75 (nI_ge (a := i) (b := F) (by omega) (by omega))
    · refine xr_aload_0 cx dX8_readPlan_78 ?_
      refine xr_getR cx dX8_readPlan_79 fl_X8_10 g8 rfl ?_
      refine xr_getR cx dX8_readPlan_82 fl_X8_58 na0 rfl ?_
      refine xr_aload_0 cx dX8_readPlan_85 ?_
      refine xr_getR cx dX8_readPlan_86 fl_X8_32 g8 rfl ?_
      refine xr_getR cx dX8_readPlan_89 fl_X8_78 g158 rfl ?_
      refine xr_iload_2 cx dX8_readPlan_92 ?_
      refine xr_V1i (ν := mX5_at) cx dX8_readPlan_93 rfl ml_X8_82 vf_X5_at g159 (Nat.le_of_ble_eq_true rfl) (m_X5_at g159 g160 (by decide) ?_)
      rw [rowAt_in (by omega) (by decide), hl1]
      refine xr_aload_0 cx dX8_readPlan_96 ?_
      refine xr_getR cx dX8_readPlan_97 fl_X8_32 g8 rfl ?_
      refine xr_getR cx dX8_readPlan_100 fl_X8_87 g158 rfl ?_
      refine xr_iload_2 cx dX8_readPlan_103 ?_
      refine xr_V1i (ν := mX5_at) cx dX8_readPlan_104 rfl ml_X8_82 vf_X5_at g161 (Nat.le_of_ble_eq_true rfl) (m_X5_at g161 g162 (by decide) ?_)
      rw [rowAt_in (by omega) (by decide), hn1]
      refine xr_V2v (ν := mX6_add) cx dX8_readPlan_107 rfl ml_X8_67 vf_X6_add na1 (Nat.le_of_ble_eq_true rfl) (m_X6_add L9 ((RB_planned hR).trans hx.1) hs30 ?_)
      refine xr_iinc_2 (y := 1) cx dX8_readPlan_110 (by decide) ?_
      refine xr_goto (tgt := 67) cx dX8_readPlan_113 (by decide) ?_
      rw [nI_1]
      exact ih (i + 1) (by omega) (RB_add hR hx hs30) (mPlan_inv hI hs30 (fun k h1 h2 => hok i (by omega) k (by omega) h2)) (by rw [mPlan_st hx hs30, hS]; omega) ((congrFun (hfa 158 (by decide)) 2).trans hF) ((hfa 160 (by decide)).trans hl1) ((hfa 162 (by decide)).trans hn1) (fun ρ r1 r2 r3 => h ρ r1 r2 (xfr_tr xfr_add r3))
theorem m_X8_readPlan_s {l : Launch} {E : XEnv} {d : Nat} {σ : XSt} {a : Nat → Int32} {hl : List (Nat → Int32)} {sn : Option (Nat → Int32)} {Q : Int32 → XSt → Prop} {q : PS} {L : Nat} (hG : xGl E) (hC : CRel σ a hl sn) (hL60 : L ≤ 60) (hL : σ 158 3 = nI L) (hr : (pRun (mSt a) (σ 163) L 0 (0, 0, σ 158 7, σ 160, σ 162)) = .inr q) (hz : ¬ (q.1 = 0 ∨ q.1 = 2)) (hg : pNok (mSt a) (pNd q) q.2.1) (hF30 : q.2.1 ≤ 30) (h : ∀ τ, CRd σ τ a hl sn (oRead a L (pRun (mSt a) (σ 163) L 0 (0, 0, σ 158 7, σ 160, σ 162))).2 → Q (oRead a L (pRun (mSt a) (σ 163) L 0 (0, 0, σ 158 7, σ 160, σ 162))).1 τ) : XMi l E (d + 5) mX8_readPlan [.ref (xad E 8)] σ Q := by
  obtain ⟨g0, g1, g2, g3, g4, g5, g6, g7, g8, g72, g73, g158, g159, g160, g161, g162, g163, L9, L30, L51, L74, L95, L116, L137⟩ := id hG
  obtain ⟨na0, na1, na2, na3, na4, na5, na6, na7, na8, na9, na10, na11, na12, na13, na14, na15, na16, na17, na18, na19, na20⟩ := id L9
  obtain ⟨hR, hI, hCH, hCS⟩ := id hC
  obtain ⟨hx, hO, hN, hD, hW, hE, hA⟩ := id hI
  obtain ⟨ix1, ix2, ix3, ix4, iy1, iy2, iy3, iy4⟩ := id hx
  refine xr_entry (lv := [some (.ref (xad E 8)), none, none]) (by decide +kernel) (by simp [Value.category]) (Nat.le_of_ble_eq_true rfl) rfl (fun w hw cx cz => ?_)
  subst hw
  refine xr_aload_0 cx dX8_readPlan_0 ?_
  refine xr_getR cx dX8_readPlan_1 fl_X8_32 g8 rfl ?_
  refine xr_aload_0 cx dX8_readPlan_4 ?_
  refine xr_getR cx dX8_readPlan_5 fl_X8_10 g8 rfl ?_
  refine xr_getR cx dX8_readPlan_8 fl_X8_58 na0 rfl ?_
  refine xr_getI cx dX8_readPlan_11 fl_X8_62 na1 rfl ?_
  rw [RB_planned hR, ix1]
  refine xr_V1i (ν := mX4_read) cx dX8_readPlan_14 rfl ml_X8_71 vf_X4_read g158 (Nat.le_of_ble_eq_true rfl) (m_X4_read hG hL60 hL (fun τ ht hp => ?_))
  have hp2 := hp q hr hz
  obtain ⟨p1, p2, p3, -⟩ := hp2
  have hC0 := CRel_TF hC ht
  have hR0 := hC0.1
  rw [hr, show pAns L (.inr q) = -1 from if_neg hz]
  unfold oRead at h
  rw [hr, if_neg (fun z => z (if_neg hz))] at h
  refine xr_istore_1 cx dX8_readPlan_17 ?_
  refine xr_iload_1 cx dX8_readPlan_18 ?_
  refine xr_iconst (v := -1) cx dX8_readPlan_19 (by decide) ?_
  refine xr_icmp_eq (tgt := 28) cx dX8_readPlan_20 (by decide) (fun cq20 => ?_) (fun cq20 => ?_)
  · refine xr_aload_0 cx dX8_readPlan_28 ?_
    refine xr_getR cx dX8_readPlan_29 fl_X8_10 g8 rfl ?_
    refine xr_getR cx dX8_readPlan_32 fl_X8_58 na0 rfl ?_
    refine xr_getI cx dX8_readPlan_35 fl_X8_62 na1 rfl ?_
    refine xr_aload_0 cx dX8_readPlan_38 ?_
    refine xr_getR cx dX8_readPlan_39 fl_X8_32 g8 rfl ?_
    refine xr_getI cx dX8_readPlan_42 fl_X8_75 g158 rfl ?_
    rw [RB_planned hR0, p1]
    refine xr_iadd cx dX8_readPlan_45 ?_
    refine xr_bipush (v := 30) cx dX8_readPlan_46 (by decide) ?_
    refine xr_icmp_le (tgt := 54) cx dX8_readPlan_48 (by decide) (fun cq48 => ?_) (fun cq48 => ?_)
    · have h5 : ∀ ρ, CRd σ ρ a hl sn (some (mPlans a q.2.2.2.1 (pNd q) q.2.1 0)) → Q (mPlans a q.2.2.2.1 (pNd q) q.2.1 0 1) ρ := fun ρ z => by
        have h6 := h ρ
        rw [show (match (Sum.inr q : Nat ⊕ PS) with
          | .inl _ => ((0 : Int32), (none : Option (Nat → Int32)))
          | .inr q => if 30 < a 1 + nI q.2.1 then (-3, none) else (mPlans a q.2.2.2.1 (pNd q) q.2.1 0 1, some (mPlans a q.2.2.2.1 (pNd q) q.2.1 0))) = (mPlans a q.2.2.2.1 (pNd q) q.2.1 0 1, some (mPlans a q.2.2.2.1 (pNd q) q.2.1 0)) from if_neg (fun y => Int32.not_le.mpr y cq48)] at h6
        exact h6 z
      have hNF : mSt a + q.2.1 ≤ 30 := by
        have z : nI (mSt a + q.2.1) ≤ nI 30 := by rw [← nI_add, ← ix1]; exact cq48
        exact (nI_leI (by omega) (by decide)).mp z
      refine xr_aload_0 cx dX8_readPlan_54 ?_
      refine xr_getR cx dX8_readPlan_55 fl_X8_25 g8 rfl ?_
      refine xr_aload_0 cx dX8_readPlan_58 ?_
      refine xr_getR cx dX8_readPlan_59 fl_X8_10 g8 rfl ?_
      refine xr_V1v (ν := mX1_record) cx dX8_readPlan_62 rfl ml_X8_54 vf_X1_record g72 (Nat.le_of_ble_eq_true rfl) (m_X1_record hG hC0 (fun ρ hC1 hf1 => ?_))
      refine xr_iconst (v := 0) cx dX8_readPlan_65 (by decide) ?_
      refine xr_istore_2 cx dX8_readPlan_66 ?_
      refine lp_X8_readPlan (N := mSt a) (F := q.2.1) (ln := q.2.2.2.1) (nd := pNd q) hG hNF hg cx cz q.2.1 0 (by omega) hC1.1 hI (by omega) ((congrFun (hf1 158 (by decide)) 2).trans p1) ((hf1 160 (by decide)).trans p2) ((hf1 162 (by decide)).trans p3) (fun ρ2 r1 r2 r3 => h5 ρ2 ⟨⟨?_, ?_, fun c hc => ?_⟩, CRel_now hC1 r1 r2 r3⟩)
      · rw [r3 158 (by decide), hf1 158 (by decide)]; exact ht.2
      · rw [r3 163 (by decide), hf1 163 (by decide)]; exact (TF_3 ht).2.1
      · rw [r3 c (by omega), hf1 c (by omega)]; exact (TF_3 ht).2.2 c hc
    · have h6 := h τ
      rw [show (match (Sum.inr q : Nat ⊕ PS) with
        | .inl _ => ((0 : Int32), (none : Option (Nat → Int32)))
        | .inr q => if 30 < a 1 + nI q.2.1 then (-3, none) else (mPlans a q.2.2.2.1 (pNd q) q.2.1 0 1, some (mPlans a q.2.2.2.1 (pNd q) q.2.1 0))) = (-3, none) from if_pos (Int32.not_le.mp cq48)] at h6
      refine xr_bipush (v := -3) cx dX8_readPlan_51 (by decide) ?_
      refine xr_iret cx cz dX8_readPlan_53 rfl ?_
      exact h6 ⟨TF_3 ht, hC0⟩
  · exact absurd rfl cq20
theorem m_X8_readPlan {l : Launch} {E : XEnv} {d : Nat} {σ : XSt} {a : Nat → Int32} {hl : List (Nat → Int32)} {sn : Option (Nat → Int32)} {Q : Int32 → XSt → Prop} {L : Nat} (hG : xGl E) (hC : CRel σ a hl sn) (hL60 : L ≤ 60) (hL : σ 158 3 = nI L) (h : ∀ τ, CRd σ τ a hl sn (oRead a L (pRun (mSt a) (σ 163) L 0 (0, 0, σ 158 7, σ 160, σ 162))).2 → Q (oRead a L (pRun (mSt a) (σ 163) L 0 (0, 0, σ 158 7, σ 160, σ 162))).1 τ) : XMi l E (d + 5) mX8_readPlan [.ref (xad E 8)] σ Q := by
  by_cases hf : pAns L (pRun (mSt a) (σ 163) L 0 (0, 0, σ 158 7, σ 160, σ 162)) = -1
  · cases hr : (pRun (mSt a) (σ 163) L 0 (0, 0, σ 158 7, σ 160, σ 162)) with
    | inl i =>
      rw [hr] at hf
      have hb : ∀ (n i j : Nat) (s : PS), pRun (mSt a) (σ 163) n i s = .inl j → j < i + n := by
        intro n
        induction n with
        | zero => intro i j s z; cases z
        | succ n ih =>
          intro i j s z
          rw [pRun] at z
          cases hs : pStep (mSt a) (σ 163 i) s with
          | none => rw [hs] at z; cases z; omega
          | some r => rw [hs] at z; have := ih (i + 1) j r z; omega
      have hi := hb _ _ _ _ hr
      exact absurd hf (nI_nm1 (by omega))
    | inr q =>
      have hz : ¬ (q.1 = 0 ∨ q.1 = 2) := fun z => by
        rw [hr, show pAns L (.inr q) = nI L from if_pos z] at hf
        exact nI_nm1 (by omega) hf
      have hst := hC.2.1.1.2.2.2.2.2.1
      have hq := pRun_good (N := mSt a) (t := σ 163) hst L 0 (by omega) hr ⟨fun k hk => absurd hk (Nat.not_lt_zero k), fun z => by rcases z with z | z <;> cases z⟩ ⟨Nat.zero_le _, Nat.zero_le _, fun z => absurd rfl z⟩ (by unfold pFit; rw [if_pos rfl]; exact Nat.zero_le _)
      exact m_X8_readPlan_s hG hC hL60 hL hr hz (pNd_ok hq.1 hq.2 hst) hq.2.2.1 h
  · exact m_X8_readPlan_f hG hC hL60 hL hf h
