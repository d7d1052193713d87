theorem mRun_inv : ∀ (n : Nat) {a : Nat → Int32} (x : Int32), xInv a → xInv (mRun n a x).1
  | 0, _, _, h => h
  | n + 1, a, x, h => by
    cases hg : mGo a with
    | none => rw [mRun_none hg]; exact h
    | some p =>
      rw [mRun_some hg]
      obtain ⟨hw, hp⟩ := mGo_some hg
      exact mRun_inv n _ (mWrite_inv h (mNext_lt hp h.1.2.2.2.2.2.2.1) hw)
theorem wip_eq {τ : XSt} {b : Nat} {r : Nat → Int32} (h : RB τ b r) (hI : xInv r) : xit (fun p acc => acc + τ (b + 10) p) 6 0 0 = r 9 := by
  rw [hI.2.2.2.2.1]
  exact xit_cong 6 0 0 (fun k y h1 h2 => by rw [RB_wiped h (by omega)])
/-- the number of a table at y; -2 where there is none -/
def xsel (y : Int32) (l : List Int32) : Int32 := if y < 0 ∨ nI l.length ≤ y then -2 else l.getD y.toNatClampNeg 0
theorem xsel_in {y v : Int32} {l : List Int32} {j : Nat} (hy : y = nI j) (hj : l[j]? = some v) (hl : l.length < 2 ^ 31) : xsel y l = v := by
  have hlt := (List.getElem?_eq_some_iff.mp hj).1
  subst hy
  unfold xsel
  rw [if_neg (fun q => q.elim (nI_pos (by omega)) (fun q => nI_ge hlt hl q)), nI_clamp (by omega), List.getD_eq_getElem?_getD, hj]
  rfl
theorem xsel_out {y : Int32} {l : List Int32} {n : Nat} (hn : l.length = n) (hl : n < 2 ^ 31) (h : ∀ j, j < n → y ≠ nI j) : xsel y l = -2 := by
  unfold xsel
  rw [if_pos]
  by_cases c : y < 0
  · exact Or.inl c
  · obtain ⟨j, hj, rfl⟩ := nI_of c
    refine Or.inr ?_
    rw [hn]
    rcases Nat.lt_or_ge j n with q | q
    · exact absurd rfl (h j q)
    · exact nI_le q hj
def oPanel (a : Nat → Int32) (x y : Int32) : Int32 := if x < 0 ∨ 6 ≤ x then -1 else xsel y [a (17 + x.toNatClampNeg), mLines a x.toNatClampNeg, if mFront a x.toNatClampNeg = true then 1 else 0, if bt (a 7) x.toNatClampNeg = true then 1 else 0, a (23 + x.toNatClampNeg), a (17 + x.toNatClampNeg) &&& (mPh a ^^^ (-1))]
def pnn (q : Option Nat) : Int32 := match q with
  | some p => nI p
  | none => -5
def oStep (a : Nat → Int32) (x y : Int32) : Int32 := if x < 0 ∨ a 1 ≤ x then -1 else xsel y [a (109 + x.toNatClampNeg), a (139 + x.toNatClampNeg), if x < a 2 then 1 else 0, pnn (mPan a x.toNatClampNeg), if bt (mPh a) x.toNatClampNeg = true then 1 else 0, a (169 + x.toNatClampNeg), a (199 + x.toNatClampNeg)]
def oPhotoOf (a : Nat → Int32) (x y : Int32) : Int32 := if x < 0 ∨ y < 0 ∨ 1 < y then -2 else if a 10 ≤ x then -5 else if y = 0 then a (29 + x.toNatClampNeg) else a (69 + x.toNatClampNeg)
def oWould (a : Nat → Int32) (y : Int32) : Int32 := xsel y [(mRun 30 a 0).1 8 - a 8, (mRun 30 a 0).1 9 - a 9, (mRun 30 a 0).1 11 - a 11, (mRun 30 a 0).1 12 - a 12, (mRun 30 a 0).1 13 - a 13, (mRun 30 a 0).1 2 - a 2]
def oCount (a : Nat → Int32) (hn tn : Nat) (y : Int32) : Int32 := xsel y [a 1, a 2, a 3, a 8, a 9, a 10, a 11, a 12, a 13, a 14, a 15, a 16, a 2 - swar (xit (fun p acc => acc ||| a (17 + p)) 6 0 0 ||| mPh a), a 0, nI hn, nI tn]
def CQ (σ τ : XSt) : Prop := ∀ k, ¬ (22 ≤ k ∧ k < 43) → τ k = σ k
theorem RB_phOf {σ : XSt} {b j : Nat} {a : Nat → Int32} (h : RB σ b a) (hj : j < 40) : rowAt (σ (b + 15)) 40 (nI j) = a (29 + j) ∧ rowAt (σ (b + 17)) 40 (nI j) = a (69 + j) := by
  rw [rowAt_in hj (by decide), rowAt_in hj (by decide), RB_phP h hj, RB_phS h hj]
  exact ⟨rfl, rfl⟩
theorem CH_size {σ : XSt} {hl : List (Nat → Int32)} (h : CH σ hl) : σ 64 2 = nI hl.length := by
  obtain ⟨x, -, -, h1, -⟩ := h
  exact h1
theorem CH_le {σ : XSt} {hl : List (Nat → Int32)} (h : CH σ hl) : hl.length ≤ 4 := by
  obtain ⟨x, -, -, -, h1, -⟩ := h
  exact h1
theorem m_X8_undo_n {l : Launch} {E : XEnv} {d : Nat} {σ : XSt} {a : Nat → Int32} {hl : List (Nat → Int32)} {sn : Option (Nat → Int32)} {Q : Int32 → XSt → Prop} (hG : xGl E) (hC : CRel σ a [] sn) (h : Q (-5) σ) : XMi l E (d + 5) mX8_undo [.ref (xad E 0)] σ Q := by
  obtain ⟨g8, g72, g73, g158, g159, g160, g161, g162, g163, L9, L30, L51, L74, L95, L116, L137⟩ := id hG
  obtain ⟨na0, na1, na2, na3, na4, na5, na6, na7, na8, na9, na10, na11, na12, na13, na14, na15, na16, na17, na18, na19, na20⟩ := id L9
  obtain ⟨hR, hI, hCH, hCS⟩ := id hC
  obtain ⟨hx, hO, hN, hD, hW, hE, hA⟩ := id hI
  obtain ⟨ix1, ix2, ix3, ix4, iy1, iy2, iy3, iy4⟩ := id hx
  refine xr_entry (lv := [some (.ref (xad E 0))]) (by decide +kernel) (by simp [Value.category]) (Nat.le_of_ble_eq_true rfl) rfl (fun w hw cx cz => ?_)
  subst hw
  refine xr_aload_0 cx dX8_undo_0 ?_
  refine xr_getR cx dX8_undo_1 fl_X8_25 g8 rfl ?_
  refine xr_getI cx dX8_undo_4 fl_X8_158 g72 rfl ?_
  rw [CH_size hCH]
  refine xr_if_ne (tgt := 13) cx dX8_undo_7 (by decide) (fun cq7 => ?_) (fun cq7 => ?_)
  · exact absurd rfl cq7
  · refine xr_bipush (v := -5) cx dX8_undo_10 (by decide) ?_
    refine xr_iret cx cz dX8_undo_12 rfl ?_
    exact h
theorem m_X8_undo_s {l : Launch} {E : XEnv} {d : Nat} {σ : XSt} {a : Nat → Int32} {hl : List (Nat → Int32)} {sn : Option (Nat → Int32)} {Q : Int32 → XSt → Prop} {c : Nat → Int32} (hG : xGl E) (hC : CRel σ a (hl ++ [c]) sn) (h : ∀ τ, CRel τ c hl sn → (∀ k, (k < 1 ∨ 150 ≤ k) → τ k = σ k) → Q (nI hl.length) τ) : XMi l E (d + 5) mX8_undo [.ref (xad E 0)] σ Q := by
  obtain ⟨g8, g72, g73, g158, g159, g160, g161, g162, g163, L9, L30, L51, L74, L95, L116, L137⟩ := id hG
  obtain ⟨na0, na1, na2, na3, na4, na5, na6, na7, na8, na9, na10, na11, na12, na13, na14, na15, na16, na17, na18, na19, na20⟩ := id L9
  obtain ⟨hR, hI, hCH, hCS⟩ := id hC
  obtain ⟨hx, hO, hN, hD, hW, hE, hA⟩ := id hI
  obtain ⟨ix1, ix2, ix3, ix4, iy1, iy2, iy3, iy4⟩ := id hx
  refine xr_entry (lv := [some (.ref (xad E 0))]) (by decide +kernel) (by simp [Value.category]) (Nat.le_of_ble_eq_true rfl) rfl (fun w hw cx cz => ?_)
  subst hw
  refine xr_aload_0 cx dX8_undo_0 ?_
  refine xr_getR cx dX8_undo_1 fl_X8_25 g8 rfl ?_
  refine xr_getI cx dX8_undo_4 fl_X8_158 g72 rfl ?_
  rw [CH_size hCH]
  refine xr_if_ne (tgt := 13) cx dX8_undo_7 (by decide) (fun cq7 => ?_) (fun cq7 => ?_)
  · refine xr_aload_0 cx dX8_undo_13 ?_
    refine xr_getR cx dX8_undo_14 fl_X8_25 g8 rfl ?_
    refine xr_aload_0 cx dX8_undo_17 ?_
    refine xr_getR cx dX8_undo_18 fl_X8_10 g8 rfl ?_
    refine xr_V1v (ν := mX1_takeBack) cx dX8_undo_21 rfl ml_X8_161 vf_X1_takeBack g72 (Nat.le_of_ble_eq_true rfl) (m_X1_takeBack hG hC (fun τ r1 f1 => ?_))
    refine xr_aload_0 cx dX8_undo_24 ?_
    refine xr_getR cx dX8_undo_25 fl_X8_25 g8 rfl ?_
    refine xr_getI cx dX8_undo_28 fl_X8_158 g72 rfl ?_
    refine xr_iret cx cz dX8_undo_31 rfl ?_
    rw [CH_size r1.2.2.1]
    exact h τ r1 f1
  · exact absurd cq7 (nI_ne0 (by simp) (by have := CH_le hCH; omega))
theorem m_X8_panel {l : Launch} {E : XEnv} {d : Nat} {σ : XSt} {a : Nat → Int32} {hl : List (Nat → Int32)} {sn : Option (Nat → Int32)} {Q : Int32 → XSt → Prop} {x y : Int32} (hG : xGl E) (hC : CRel σ a hl sn) (h : Q (oPanel a x y) σ) : XMi l E (d + 5) mX8_panel [.ref (xad E 0), .int x, .int y] σ Q := by
  obtain ⟨g8, g72, g73, g158, g159, g160, g161, g162, g163, L9, L30, L51, L74, L95, L116, L137⟩ := id hG
  obtain ⟨na0, na1, na2, na3, na4, na5, na6, na7, na8, na9, na10, na11, na12, na13, na14, na15, na16, na17, na18, na19, na20⟩ := id L9
  obtain ⟨hR, hI, hCH, hCS⟩ := id hC
  obtain ⟨hx, hO, hN, hD, hW, hE, hA⟩ := id hI
  obtain ⟨ix1, ix2, ix3, ix4, iy1, iy2, iy3, iy4⟩ := id hx
  refine xr_entry (lv := [some (.ref (xad E 0)), some (.int x), some (.int y), none]) (by decide +kernel) (by simp [Value.category]) (Nat.le_of_ble_eq_true rfl) rfl (fun w hw cx cz => ?_)
  subst hw
  refine xr_iload_1 cx dX8_panel_0 ?_
  refine xr_S1i (ν := mX8_isPanel) cx dX8_panel_1 rfl ml_X8_103 sf_X8_isPanel (Nat.le_of_ble_eq_true rfl) (m_X8_isPanel ?_)
  refine xr_if_ne (tgt := 9) cx dX8_panel_4 (by decide) (fun cq4 => ?_) (fun cq4 => ?_)
  · have hpn := x_panel cq4
    obtain ⟨p, hp6, rfl, hpn2, hpc⟩ := hpn
    unfold oPanel at h
    rw [if_neg hpn2, hpc] at h
    refine xr_aload_0 cx dX8_panel_9 ?_
    refine xr_getR cx dX8_panel_10 fl_X8_10 g8 rfl ?_
    refine xr_getR cx dX8_panel_13 fl_X8_44 na0 rfl ?_
    refine xr_astore_3 cx dX8_panel_16 ?_
    refine xr_iload_2 cx dX8_panel_17 ?_
    refine xr_tsw (n := 6) (tgtd := 133) cx dX8_panel_18 (by decide) (by decide) (by decide) (xn_6 (fun cq18 => ⟨38, 56, by decide, by decide, ?_⟩) (fun cq18 => ⟨47, 65, by decide, by decide, ?_⟩) (fun cq18 => ⟨56, 74, by decide, by decide, ?_⟩) (fun cq18 => ⟨70, 88, by decide, by decide, ?_⟩) (fun cq18 => ⟨84, 102, by decide, by decide, ?_⟩) (fun cq18 => ⟨93, 111, by decide, by decide, ?_⟩)) (fun cq18 => ?_)
    · refine xr_aload_3 cx dX8_panel_56 ?_
      refine xr_getR cx dX8_panel_57 fl_X8_121 na6 rfl ?_
      refine xr_iload_1 cx dX8_panel_60 ?_
      refine xr_V1i (ν := mX5_at) cx dX8_panel_61 rfl ml_X8_82 vf_X5_at na7 (Nat.le_of_ble_eq_true rfl) (m_X5_at na7 na8 (by decide) ?_)
      rw [xsel_in cq18 (j := 0) rfl (by simp)] at h
      rw [rowAt_in (by omega) (by decide), RB_on hR hp6]
      refine xr_iret cx cz dX8_panel_64 rfl ?_
      exact h
    · refine xr_aload_0 cx dX8_panel_65 ?_
      refine xr_getR cx dX8_panel_66 fl_X8_10 g8 rfl ?_
      refine xr_iload_1 cx dX8_panel_69 ?_
      refine xr_V1i (ν := mX2_linesOn) cx dX8_panel_70 rfl ml_X8_167 vf_X2_linesOn na0 (Nat.le_of_ble_eq_true rfl) (m_X2_linesOn L9 hR hx hO hp6 ?_)
      rw [xsel_in cq18 (j := 1) rfl (by simp)] at h
      
      refine xr_iret cx cz dX8_panel_73 rfl ?_
      exact h
    · refine xr_aload_3 cx dX8_panel_74 ?_
      refine xr_iload_1 cx dX8_panel_75 ?_
      refine xr_V1i (ν := mX0_isInFront) cx dX8_panel_76 rfl ml_X8_118 vf_X0_isInFront na6 (Nat.le_of_ble_eq_true rfl) (m_X0_isInFront L9 hp6 ?_)
      rw [xsel_in cq18 (j := 2) rfl (by simp)] at h
      
      refine xr_if_eq (tgt := 86) cx dX8_panel_79 (by decide) (fun cq79 => ?_) (fun cq79 => ?_)
      · rw [if_neg (fun q => by rw [if_pos ((RB_isFront hR hp6).mpr q)] at cq79; exact absurd cq79 (by decide))] at h
        refine xr_iconst (v := 0) cx dX8_panel_86 (by decide) ?_
        refine xr_iret cx cz dX8_panel_87 rfl ?_
        exact h
      · rw [if_pos ((RB_isFront hR hp6).mp (by by_cases q : σ (1 + 12) (p / 2) = nI p; exact q; rw [if_neg q] at cq79; exact absurd rfl cq79))] at h
        refine xr_iconst (v := 1) cx dX8_panel_82 (by decide) ?_
        refine xr_goto (tgt := 87) cx dX8_panel_83 (by decide) ?_
        refine xr_iret cx cz dX8_panel_87 rfl ?_
        exact h
    · refine xr_aload_3 cx dX8_panel_88 ?_
      refine xr_iload_1 cx dX8_panel_89 ?_
      refine xr_V1i (ν := mX0_isPinned) cx dX8_panel_90 rfl ml_X8_107 vf_X0_isPinned na6 (Nat.le_of_ble_eq_true rfl) (m_X0_isPinned L9 hp6 ?_)
      rw [xsel_in cq18 (j := 3) rfl (by simp)] at h
      rw [RB_pins hR]
      refine xr_if_eq (tgt := 100) cx dX8_panel_93 (by decide) (fun cq93 => ?_) (fun cq93 => ?_)
      · rw [if_neg (fun q => by rw [if_pos q] at cq93; exact absurd cq93 (by decide))] at h
        refine xr_iconst (v := 0) cx dX8_panel_100 (by decide) ?_
        refine xr_iret cx cz dX8_panel_101 rfl ?_
        exact h
      · rw [if_pos (by by_cases q : bt (a 7) p = true; exact q; rw [if_neg q] at cq93; exact absurd rfl cq93)] at h
        refine xr_iconst (v := 1) cx dX8_panel_96 (by decide) ?_
        refine xr_goto (tgt := 101) cx dX8_panel_97 (by decide) ?_
        refine xr_iret cx cz dX8_panel_101 rfl ?_
        exact h
    · refine xr_aload_3 cx dX8_panel_102 ?_
      refine xr_getR cx dX8_panel_103 fl_X8_170 na6 rfl ?_
      refine xr_iload_1 cx dX8_panel_106 ?_
      refine xr_V1i (ν := mX5_at) cx dX8_panel_107 rfl ml_X8_82 vf_X5_at na9 (Nat.le_of_ble_eq_true rfl) (m_X5_at na9 na10 (by decide) ?_)
      rw [xsel_in cq18 (j := 4) rfl (by simp)] at h
      rw [rowAt_in (by omega) (by decide), RB_wiped hR hp6]
      refine xr_iret cx cz dX8_panel_110 rfl ?_
      exact h
    · refine xr_aload_3 cx dX8_panel_111 ?_
      refine xr_getR cx dX8_panel_112 fl_X8_121 na6 rfl ?_
      refine xr_iload_1 cx dX8_panel_115 ?_
      refine xr_V1i (ν := mX5_at) cx dX8_panel_116 rfl ml_X8_82 vf_X5_at na7 (Nat.le_of_ble_eq_true rfl) (m_X5_at na7 na8 (by decide) ?_)
      rw [xsel_in cq18 (j := 5) rfl (by simp)] at h
      rw [rowAt_in (by omega) (by decide), RB_on hR hp6]
      refine xr_aload_0 cx dX8_panel_119 ?_
      refine xr_getR cx dX8_panel_120 fl_X8_10 g8 rfl ?_
      refine xr_getR cx dX8_panel_123 fl_X8_127 na0 rfl ?_
      refine xr_getI cx dX8_panel_126 fl_X8_136 na13 rfl ?_
      refine xr_iconst (v := -1) cx dX8_panel_129 (by decide) ?_
      refine xr_ixor cx dX8_panel_130 ?_
      rw [hR.2]
      refine xr_iand cx dX8_panel_131 ?_
      refine xr_iret cx cz dX8_panel_132 rfl ?_
      exact h
    · refine xr_bipush (v := -2) cx dX8_panel_133 (by decide) ?_
      refine xr_iret cx cz dX8_panel_135 rfl ?_
      rw [xsel_out (n := 6) rfl (by decide) cq18] at h
      exact h
  · refine xr_iconst (v := -1) cx dX8_panel_7 (by decide) ?_
    refine xr_iret cx cz dX8_panel_8 rfl ?_
    unfold oPanel at h
    rw [if_pos (x_npanel cq4)] at h
    exact h
theorem m_X8_pon_n {l : Launch} {E : XEnv} {d : Nat} {σ : XSt} {a : Nat → Int32} {hl : List (Nat → Int32)} {sn : Option (Nat → Int32)} {Q : Int32 → XSt → Prop} {s : Nat} (hG : xGl E) (hC : CRel σ a hl sn) (hs : s < 30) (hp : mPan a s = none) (h : Q (pnn (mPan a s)) σ) : XMi l E (d + 3) mX8_panelOrNone [.ref (xad E 0), .int (nI s)] σ Q := by
  obtain ⟨g8, g72, g73, g158, g159, g160, g161, g162, g163, L9, L30, L51, L74, L95, L116, L137⟩ := id hG
  obtain ⟨na0, na1, na2, na3, na4, na5, na6, na7, na8, na9, na10, na11, na12, na13, na14, na15, na16, na17, na18, na19, na20⟩ := id L9
  obtain ⟨hR, hI, hCH, hCS⟩ := id hC
  obtain ⟨hx, hO, hN, hD, hW, hE, hA⟩ := id hI
  obtain ⟨ix1, ix2, ix3, ix4, iy1, iy2, iy3, iy4⟩ := id hx
  refine xr_entry (lv := [some (.ref (xad E 0)), some (.int (nI s)), none]) (by decide +kernel) (by simp [Value.category]) (Nat.le_of_ble_eq_true rfl) rfl (fun w hw cx cz => ?_)
  subst hw
  refine xr_aload_0 cx dX8_panelOrNone_0 ?_
  refine xr_getR cx dX8_panelOrNone_1 fl_X8_10 g8 rfl ?_
  refine xr_getR cx dX8_panelOrNone_4 fl_X8_44 na0 rfl ?_
  refine xr_iload_1 cx dX8_panelOrNone_7 ?_
  refine xr_V1i (ν := mX0_panelWith) cx dX8_panelOrNone_8 rfl ml_X8_236 vf_X0_panelWith na6 (Nat.le_of_ble_eq_true rfl) (m_X0_panelWith L9 hs ?_)
  rw [RB_pan hR, hp]
  show XG _ _ _ _ [.int (-1)] _
  refine xr_istore_2 cx dX8_panelOrNone_11 ?_
  refine xr_iload_2 cx dX8_panelOrNone_12 ?_
  refine xr_iconst (v := -1) cx dX8_panelOrNone_13 (by decide) ?_
  refine xr_icmp_ne (tgt := 22) cx dX8_panelOrNone_14 (by decide) (fun cq14 => ?_) (fun cq14 => ?_)
  · exact absurd rfl cq14
  · refine xr_bipush (v := -5) cx dX8_panelOrNone_17 (by decide) ?_
    refine xr_goto (tgt := 23) cx dX8_panelOrNone_19 (by decide) ?_
    refine xr_iret cx cz dX8_panelOrNone_23 rfl ?_
    rw [hp] at h
    exact h
theorem m_X8_pon_s {l : Launch} {E : XEnv} {d : Nat} {σ : XSt} {a : Nat → Int32} {hl : List (Nat → Int32)} {sn : Option (Nat → Int32)} {Q : Int32 → XSt → Prop} {s p : Nat} (hG : xGl E) (hC : CRel σ a hl sn) (hs : s < 30) (hp : mPan a s = some p) (h : Q (pnn (mPan a s)) σ) : XMi l E (d + 3) mX8_panelOrNone [.ref (xad E 0), .int (nI s)] σ Q := by
  obtain ⟨g8, g72, g73, g158, g159, g160, g161, g162, g163, L9, L30, L51, L74, L95, L116, L137⟩ := id hG
  obtain ⟨na0, na1, na2, na3, na4, na5, na6, na7, na8, na9, na10, na11, na12, na13, na14, na15, na16, na17, na18, na19, na20⟩ := id L9
  obtain ⟨hR, hI, hCH, hCS⟩ := id hC
  obtain ⟨hx, hO, hN, hD, hW, hE, hA⟩ := id hI
  obtain ⟨ix1, ix2, ix3, ix4, iy1, iy2, iy3, iy4⟩ := id hx
  refine xr_entry (lv := [some (.ref (xad E 0)), some (.int (nI s)), none]) (by decide +kernel) (by simp [Value.category]) (Nat.le_of_ble_eq_true rfl) rfl (fun w hw cx cz => ?_)
  subst hw
  refine xr_aload_0 cx dX8_panelOrNone_0 ?_
  refine xr_getR cx dX8_panelOrNone_1 fl_X8_10 g8 rfl ?_
  refine xr_getR cx dX8_panelOrNone_4 fl_X8_44 na0 rfl ?_
  refine xr_iload_1 cx dX8_panelOrNone_7 ?_
  refine xr_V1i (ν := mX0_panelWith) cx dX8_panelOrNone_8 rfl ml_X8_236 vf_X0_panelWith na6 (Nat.le_of_ble_eq_true rfl) (m_X0_panelWith L9 hs ?_)
  rw [RB_pan hR, hp]
  show XG _ _ _ _ [.int (nI p)] _
  refine xr_istore_2 cx dX8_panelOrNone_11 ?_
  refine xr_iload_2 cx dX8_panelOrNone_12 ?_
  refine xr_iconst (v := -1) cx dX8_panelOrNone_13 (by decide) ?_
  refine xr_icmp_ne (tgt := 22) cx dX8_panelOrNone_14 (by decide) (fun cq14 => ?_) (fun cq14 => ?_)
  · refine xr_iload_2 cx dX8_panelOrNone_22 ?_
    refine xr_iret cx cz dX8_panelOrNone_23 rfl ?_
    rw [hp] at h
    exact h
  · exact absurd cq14 (nI_nm1 (by have := mPan_lt hp; omega))
theorem m_X8_panelOrNone {l : Launch} {E : XEnv} {d : Nat} {σ : XSt} {a : Nat → Int32} {hl : List (Nat → Int32)} {sn : Option (Nat → Int32)} {Q : Int32 → XSt → Prop} {s : Nat} (hG : xGl E) (hC : CRel σ a hl sn) (hs : s < 30) (h : Q (pnn (mPan a s)) σ) : XMi l E (d + 3) mX8_panelOrNone [.ref (xad E 0), .int (nI s)] σ Q := by
  cases hp : mPan a s with
  | none => exact m_X8_pon_n hG hC hs hp h
  | some p => exact m_X8_pon_s hG hC hs hp h
theorem m_X8_step {l : Launch} {E : XEnv} {d : Nat} {σ : XSt} {a : Nat → Int32} {hl : List (Nat → Int32)} {sn : Option (Nat → Int32)} {Q : Int32 → XSt → Prop} {x y : Int32} (hG : xGl E) (hC : CRel σ a hl sn) (h : Q (oStep a x y) σ) : XMi l E (d + 5) mX8_step [.ref (xad E 0), .int x, .int y] σ Q := by
  obtain ⟨g8, g72, g73, g158, g159, g160, g161, g162, g163, L9, L30, L51, L74, L95, L116, L137⟩ := id hG
  obtain ⟨na0, na1, na2, na3, na4, na5, na6, na7, na8, na9, na10, na11, na12, na13, na14, na15, na16, na17, na18, na19, na20⟩ := id L9
  obtain ⟨hR, hI, hCH, hCS⟩ := id hC
  obtain ⟨hx, hO, hN, hD, hW, hE, hA⟩ := id hI
  obtain ⟨ix1, ix2, ix3, ix4, iy1, iy2, iy3, iy4⟩ := id hx
  refine xr_entry (lv := [some (.ref (xad E 0)), some (.int x), some (.int y)]) (by decide +kernel) (by simp [Value.category]) (Nat.le_of_ble_eq_true rfl) rfl (fun w hw cx cz => ?_)
  subst hw
  refine xr_aload_0 cx dX8_step_0 ?_
  refine xr_getR cx dX8_step_1 fl_X8_10 g8 rfl ?_
  refine xr_getR cx dX8_step_4 fl_X8_58 na0 rfl ?_
  refine xr_iload_1 cx dX8_step_7 ?_
  refine xr_V1i (ν := mX6_has) cx dX8_step_8 rfl ml_X8_142 vf_X6_has na1 (Nat.le_of_ble_eq_true rfl) (m_X6_has L9 ?_)
  rw [RB_planned hR]
  refine xr_if_ne (tgt := 16) cx dX8_step_11 (by decide) (fun cq11 => ?_) (fun cq11 => ?_)
  · have hb : ¬ x < 0 ∧ x < a 1 := by by_cases q : ¬ x < 0 ∧ x < a 1; exact q; rw [if_neg q] at cq11; exact absurd rfl cq11
    obtain ⟨s, hs, rfl⟩ := nI_of hb.1
    have hsn : s < mSt a := (nI_ltI hs (by omega)).mp (by rw [← ix1]; exact hb.2)
    unfold oStep at h
    rw [if_neg (fun q => Or.elim q hb.1 (fun q => Int32.not_le.mpr hb.2 q)), nI_clamp hs] at h
    refine xr_iload_2 cx dX8_step_16 ?_
    refine xr_tsw (n := 7) (tgtd := 163) cx dX8_step_17 (by decide) (by decide) (by decide) (xn_7 (fun cq17 => ⟨43, 60, by decide, by decide, ?_⟩) (fun cq17 => ⟨58, 75, by decide, by decide, ?_⟩) (fun cq17 => ⟨73, 90, by decide, by decide, ?_⟩) (fun cq17 => ⟨93, 110, by decide, by decide, ?_⟩) (fun cq17 => ⟨99, 116, by decide, by decide, ?_⟩) (fun cq17 => ⟨119, 136, by decide, by decide, ?_⟩) (fun cq17 => ⟨134, 151, by decide, by decide, ?_⟩)) (fun cq17 => ?_)
    · refine xr_aload_0 cx dX8_step_60 ?_
      refine xr_getR cx dX8_step_61 fl_X8_10 g8 rfl ?_
      refine xr_getR cx dX8_step_64 fl_X8_58 na0 rfl ?_
      refine xr_getR cx dX8_step_67 fl_X8_173 na1 rfl ?_
      refine xr_iload_1 cx dX8_step_70 ?_
      refine xr_V1i (ν := mX5_at) cx dX8_step_71 rfl ml_X8_82 vf_X5_at na2 (Nat.le_of_ble_eq_true rfl) (m_X5_at na2 na3 (by decide) ?_)
      rw [xsel_in cq17 (j := 0) rfl (by simp)] at h
      rw [rowAt_in (by omega) (by decide), RB_lines hR (by omega)]
      refine xr_iret cx cz dX8_step_74 rfl ?_
      exact h
    · refine xr_aload_0 cx dX8_step_75 ?_
      refine xr_getR cx dX8_step_76 fl_X8_10 g8 rfl ?_
      refine xr_getR cx dX8_step_79 fl_X8_58 na0 rfl ?_
      refine xr_getR cx dX8_step_82 fl_X8_176 na1 rfl ?_
      refine xr_iload_1 cx dX8_step_85 ?_
      refine xr_V1i (ν := mX5_at) cx dX8_step_86 rfl ml_X8_82 vf_X5_at na4 (Nat.le_of_ble_eq_true rfl) (m_X5_at na4 na5 (by decide) ?_)
      rw [xsel_in cq17 (j := 1) rfl (by simp)] at h
      rw [rowAt_in (by omega) (by decide), RB_needs hR (by omega)]
      refine xr_iret cx cz dX8_step_89 rfl ?_
      exact h
    · refine xr_iload_1 cx dX8_step_90 ?_
      refine xr_aload_0 cx dX8_step_91 ?_
      refine xr_getR cx dX8_step_92 fl_X8_10 g8 rfl ?_
      refine xr_getR cx dX8_step_95 fl_X8_58 na0 rfl ?_
      refine xr_getI cx dX8_step_98 fl_X8_145 na1 rfl ?_
      rw [RB_written hR]
      rw [xsel_in cq17 (j := 2) rfl (by simp)] at h
      
      refine xr_icmp_ge (tgt := 108) cx dX8_step_101 (by decide) (fun cq101 => ?_) (fun cq101 => ?_)
      · rw [if_neg (fun q => Int32.not_lt.mpr cq101 q)] at h
        refine xr_iconst (v := 0) cx dX8_step_108 (by decide) ?_
        refine xr_iret cx cz dX8_step_109 rfl ?_
        exact h
      · rw [if_pos (Int32.not_le.mp cq101)] at h
        refine xr_iconst (v := 1) cx dX8_step_104 (by decide) ?_
        refine xr_goto (tgt := 109) cx dX8_step_105 (by decide) ?_
        refine xr_iret cx cz dX8_step_109 rfl ?_
        exact h
    · refine xr_aload_0 cx dX8_step_110 ?_
      refine xr_iload_1 cx dX8_step_111 ?_
      refine xr_V1i (ν := mX8_panelOrNone) cx dX8_step_112 rfl ml_X8_179 vf_X8_panelOrNone g8 (Nat.le_of_ble_eq_true rfl) (m_X8_panelOrNone hG hC (by omega) ?_)
      rw [xsel_in cq17 (j := 3) rfl (by simp)] at h
      
      refine xr_iret cx cz dX8_step_115 rfl ?_
      exact h
    · refine xr_aload_0 cx dX8_step_116 ?_
      refine xr_getR cx dX8_step_117 fl_X8_10 g8 rfl ?_
      refine xr_getR cx dX8_step_120 fl_X8_127 na0 rfl ?_
      refine xr_iload_1 cx dX8_step_123 ?_
      refine xr_V1i (ν := mX3_show) cx dX8_step_124 rfl ml_X8_182 vf_X3_show na13 (Nat.le_of_ble_eq_true rfl) (m_X3_show L9 (by omega) ?_)
      rw [hR.2]
      rw [xsel_in cq17 (j := 4) rfl (by simp)] at h
      
      refine xr_if_eq (tgt := 134) cx dX8_step_127 (by decide) (fun cq127 => ?_) (fun cq127 => ?_)
      · rw [if_neg (fun q => by rw [if_pos q] at cq127; exact absurd cq127 (by decide))] at h
        refine xr_iconst (v := 0) cx dX8_step_134 (by decide) ?_
        refine xr_iret cx cz dX8_step_135 rfl ?_
        exact h
      · rw [if_pos (by by_cases q : bt (mPh a) s = true; exact q; rw [if_neg q] at cq127; exact absurd rfl cq127)] at h
        refine xr_iconst (v := 1) cx dX8_step_130 (by decide) ?_
        refine xr_goto (tgt := 135) cx dX8_step_131 (by decide) ?_
        refine xr_iret cx cz dX8_step_135 rfl ?_
        exact h
    · refine xr_aload_0 cx dX8_step_136 ?_
      refine xr_getR cx dX8_step_137 fl_X8_10 g8 rfl ?_
      refine xr_getR cx dX8_step_140 fl_X8_185 na0 rfl ?_
      refine xr_getR cx dX8_step_143 fl_X8_189 na18 rfl ?_
      refine xr_iload_1 cx dX8_step_146 ?_
      refine xr_V1i (ν := mX5_at) cx dX8_step_147 rfl ml_X8_82 vf_X5_at na19 (Nat.le_of_ble_eq_true rfl) (m_X5_at na19 na20 (by decide) ?_)
      rw [xsel_in cq17 (j := 5) rfl (by simp)] at h
      rw [rowAt_in (by omega) (by decide), RB_asked hR (by omega)]
      refine xr_iret cx cz dX8_step_150 rfl ?_
      exact h
    · refine xr_aload_0 cx dX8_step_151 ?_
      refine xr_getR cx dX8_step_152 fl_X8_10 g8 rfl ?_
      refine xr_getR cx dX8_step_155 fl_X8_58 na0 rfl ?_
      refine xr_iload_1 cx dX8_step_158 ?_
      refine xr_V1i (ν := mX6_timesNeeded) cx dX8_step_159 rfl ml_X8_194 vf_X6_timesNeeded na1 (Nat.le_of_ble_eq_true rfl) (m_X6_timesNeeded L9 (show s < 30 by omega) ((RB_written hR).trans ix2) (by omega) ?_)
      rw [xsel_in cq17 (j := 6) rfl (by simp)] at h
      rw [show xit (fun k acc => if bt (σ (1 + 5) k) s = true then acc + 1 else acc) (mWr a - (s + 1)) (s + 1) 0 = a (199 + s) from (xit_cong _ _ _ (fun k y h1 h2 => by rw [RB_needs hR (by omega)])).trans (hE s (by omega)).symm]
      refine xr_iret cx cz dX8_step_162 rfl ?_
      exact h
    · refine xr_bipush (v := -2) cx dX8_step_163 (by decide) ?_
      refine xr_iret cx cz dX8_step_165 rfl ?_
      rw [xsel_out (n := 7) rfl (by decide) cq17] at h
      exact h
  · have hb : ¬ (¬ x < 0 ∧ x < a 1) := fun q => by rw [if_pos q] at cq11; exact absurd cq11 (by decide)
    unfold oStep at h
    rw [if_pos (by by_cases c : x < 0; exact Or.inl c; exact Or.inr (Int32.not_lt.mp (fun q => hb ⟨c, q⟩)))] at h
    refine xr_iconst (v := -1) cx dX8_step_14 (by decide) ?_
    refine xr_iret cx cz dX8_step_15 rfl ?_
    exact h
theorem m_X8_photoOf {l : Launch} {E : XEnv} {d : Nat} {σ : XSt} {a : Nat → Int32} {hl : List (Nat → Int32)} {sn : Option (Nat → Int32)} {Q : Int32 → XSt → Prop} {x y : Int32} (hG : xGl E) (hC : CRel σ a hl sn) (h : Q (oPhotoOf a x y) σ) : XMi l E (d + 5) mX8_photoOf [.ref (xad E 0), .int x, .int y] σ Q := by
  obtain ⟨g8, g72, g73, g158, g159, g160, g161, g162, g163, L9, L30, L51, L74, L95, L116, L137⟩ := id hG
  obtain ⟨na0, na1, na2, na3, na4, na5, na6, na7, na8, na9, na10, na11, na12, na13, na14, na15, na16, na17, na18, na19, na20⟩ := id L9
  obtain ⟨hR, hI, hCH, hCS⟩ := id hC
  obtain ⟨hx, hO, hN, hD, hW, hE, hA⟩ := id hI
  obtain ⟨ix1, ix2, ix3, ix4, iy1, iy2, iy3, iy4⟩ := id hx
  refine xr_entry (lv := [some (.ref (xad E 0)), some (.int x), some (.int y)]) (by decide +kernel) (by simp [Value.category]) (Nat.le_of_ble_eq_true rfl) rfl (fun w hw cx cz => ?_)
  subst hw
  refine xr_iload_1 cx dX8_photoOf_0 ?_
  refine xr_if_lt (tgt := 13) cx dX8_photoOf_1 (by decide) (fun cq1 => ?_) (fun cq1 => ?_)
  · refine xr_bipush (v := -2) cx dX8_photoOf_13 (by decide) ?_
    refine xr_iret cx cz dX8_photoOf_15 rfl ?_
    unfold oPhotoOf at h
    first | (rw [if_pos (Or.inl cq1)] at h; exact h) | (rw [if_pos (Or.inr (Or.inl cq5))] at h; exact h) | (rw [if_pos (Or.inr (Or.inr (Int32.not_le.mp cq10)))] at h; exact h)
  · refine xr_iload_2 cx dX8_photoOf_4 ?_
    refine xr_if_lt (tgt := 13) cx dX8_photoOf_5 (by decide) (fun cq5 => ?_) (fun cq5 => ?_)
    · refine xr_bipush (v := -2) cx dX8_photoOf_13 (by decide) ?_
      refine xr_iret cx cz dX8_photoOf_15 rfl ?_
      unfold oPhotoOf at h
      first | (rw [if_pos (Or.inl cq1)] at h; exact h) | (rw [if_pos (Or.inr (Or.inl cq5))] at h; exact h) | (rw [if_pos (Or.inr (Or.inr (Int32.not_le.mp cq10)))] at h; exact h)
    · refine xr_iload_2 cx dX8_photoOf_8 ?_
      refine xr_iconst (v := 1) cx dX8_photoOf_9 (by decide) ?_
      refine xr_icmp_le (tgt := 16) cx dX8_photoOf_10 (by decide) (fun cq10 => ?_) (fun cq10 => ?_)
      · unfold oPhotoOf at h
        rw [if_neg (fun q => Or.elim q cq1 (fun q => Or.elim q cq5 (fun q => Int32.not_le.mpr q cq10)))] at h
        refine xr_iload_1 cx dX8_photoOf_16 ?_
        refine xr_aload_0 cx dX8_photoOf_17 ?_
        refine xr_getR cx dX8_photoOf_18 fl_X8_10 g8 rfl ?_
        refine xr_getR cx dX8_photoOf_21 fl_X8_127 na0 rfl ?_
        refine xr_getI cx dX8_photoOf_24 fl_X8_131 na13 rfl ?_
        rw [RB_taken hR]
        refine xr_icmp_lt (tgt := 33) cx dX8_photoOf_27 (by decide) (fun cq27 => ?_) (fun cq27 => ?_)
        · rw [if_neg (fun q => Int32.not_le.mpr cq27 q)] at h
          obtain ⟨j, hj, rfl⟩ := nI_of cq1
          have hj40 : j < 40 := by have := (nI_ltI hj (by omega)).mp (show nI j < nI (mTk a) by rw [← ix4]; exact cq27); omega
          rw [nI_clamp hj] at h
          refine xr_iload_2 cx dX8_photoOf_33 ?_
          refine xr_if_ne (tgt := 54) cx dX8_photoOf_34 (by decide) (fun cq34 => ?_) (fun cq34 => ?_)
          · rw [if_neg cq34] at h
            refine xr_aload_0 cx dX8_photoOf_54 ?_
            refine xr_getR cx dX8_photoOf_55 fl_X8_10 g8 rfl ?_
            refine xr_getR cx dX8_photoOf_58 fl_X8_127 na0 rfl ?_
            refine xr_getR cx dX8_photoOf_61 fl_X8_200 na13 rfl ?_
            refine xr_iload_1 cx dX8_photoOf_64 ?_
            refine xr_V1i (ν := mX5_at) cx dX8_photoOf_65 rfl ml_X8_82 vf_X5_at na16 (Nat.le_of_ble_eq_true rfl) (m_X5_at na16 na17 (by decide) ?_)
            rw [(RB_phOf hR hj40).2]
            refine xr_iret cx cz dX8_photoOf_68 rfl ?_
            exact h
          · rw [if_pos cq34] at h
            refine xr_aload_0 cx dX8_photoOf_37 ?_
            refine xr_getR cx dX8_photoOf_38 fl_X8_10 g8 rfl ?_
            refine xr_getR cx dX8_photoOf_41 fl_X8_127 na0 rfl ?_
            refine xr_getR cx dX8_photoOf_44 fl_X8_197 na13 rfl ?_
            refine xr_iload_1 cx dX8_photoOf_47 ?_
            refine xr_V1i (ν := mX5_at) cx dX8_photoOf_48 rfl ml_X8_82 vf_X5_at na14 (Nat.le_of_ble_eq_true rfl) (m_X5_at na14 na15 (by decide) ?_)
            rw [(RB_phOf hR hj40).1]
            refine xr_goto (tgt := 68) cx dX8_photoOf_51 (by decide) ?_
            refine xr_iret cx cz dX8_photoOf_68 rfl ?_
            exact h
        · rw [if_pos (Int32.not_lt.mp cq27)] at h
          refine xr_bipush (v := -5) cx dX8_photoOf_30 (by decide) ?_
          refine xr_iret cx cz dX8_photoOf_32 rfl ?_
          exact h
      · refine xr_bipush (v := -2) cx dX8_photoOf_13 (by decide) ?_
        refine xr_iret cx cz dX8_photoOf_15 rfl ?_
        unfold oPhotoOf at h
        first | (rw [if_pos (Or.inl cq1)] at h; exact h) | (rw [if_pos (Or.inr (Or.inl cq5))] at h; exact h) | (rw [if_pos (Or.inr (Or.inr (Int32.not_le.mp cq10)))] at h; exact h)
theorem m_X8_photosNeeded {l : Launch} {E : XEnv} {d : Nat} {σ : XSt} {a : Nat → Int32} {hl : List (Nat → Int32)} {sn : Option (Nat → Int32)} {Q : Int32 → XSt → Prop} (hG : xGl E) (hC : CRel σ a hl sn) (h : ∀ τ, CQ σ τ → Q (mRun 30 a 0).2 τ) : XMi l E (d + 6) mX8_photosNeeded [.ref (xad E 0)] σ Q := by
  obtain ⟨g8, g72, g73, g158, g159, g160, g161, g162, g163, L9, L30, L51, L74, L95, L116, L137⟩ := id hG
  obtain ⟨na0, na1, na2, na3, na4, na5, na6, na7, na8, na9, na10, na11, na12, na13, na14, na15, na16, na17, na18, na19, na20⟩ := id L9
  obtain ⟨fa0, fa1, fa2, fa3, fa4, fa5, fa6, fa7, fa8, fa9, fa10, fa11, fa12, fa13, fa14, fa15, fa16, fa17, fa18, fa19, fa20⟩ := id L30
  obtain ⟨hR, hI, hCH, hCS⟩ := id hC
  obtain ⟨hx, hO, hN, hD, hW, hE, hA⟩ := id hI
  obtain ⟨ix1, ix2, ix3, ix4, iy1, iy2, iy3, iy4⟩ := id hx
  refine xr_entry (lv := [some (.ref (xad E 0))]) (by decide +kernel) (by simp [Value.category]) (Nat.le_of_ble_eq_true rfl) rfl (fun w hw cx cz => ?_)
  subst hw
  refine xr_aload_0 cx dX8_photosNeeded_0 ?_
  refine xr_getR cx dX8_photosNeeded_1 fl_X8_16 g8 rfl ?_
  refine xr_aload_0 cx dX8_photosNeeded_4 ?_
  refine xr_getR cx dX8_photosNeeded_5 fl_X8_10 g8 rfl ?_
  refine xr_V1v (ν := mX2_copyFrom) cx dX8_photosNeeded_8 rfl ml_X8_164 vf_X2_copyFrom fa0 (Nat.le_of_ble_eq_true rfl) (m_X2_copyFrom L30 L9 (by decide) ?_)
  refine xr_aload_0 cx dX8_photosNeeded_11 ?_
  refine xr_getR cx dX8_photosNeeded_12 fl_X8_16 g8 rfl ?_
  refine xr_V0i (ν := mX2_writeAll) cx dX8_photosNeeded_15 rfl ml_X8_203 vf_X2_writeAll fa0 (Nat.le_of_ble_eq_true rfl) (m_X2_writeAll L30 (RB_cpL hR (by decide)) hI (fun τ r1 f1 => ?_))
  have hq : CQ σ τ := fun k hk => (f1 k (by omega)).trans (xfr_cpL (b := 22) k (by omega))
  have hRn : RB τ 1 a := RB_fr hR (fun i hi => hq _ (by omega))
  refine xr_iret cx cz dX8_photosNeeded_18 rfl ?_
  exact h τ hq
theorem m_X8_wouldBe {l : Launch} {E : XEnv} {d : Nat} {σ : XSt} {a : Nat → Int32} {hl : List (Nat → Int32)} {sn : Option (Nat → Int32)} {Q : Int32 → XSt → Prop} {y : Int32} (hG : xGl E) (hC : CRel σ a hl sn) (h : ∀ τ, CQ σ τ → Q (oWould a y) τ) : XMi l E (d + 6) mX8_wouldBe [.ref (xad E 0), .int y] σ Q := by
  obtain ⟨g8, g72, g73, g158, g159, g160, g161, g162, g163, L9, L30, L51, L74, L95, L116, L137⟩ := id hG
  obtain ⟨na0, na1, na2, na3, na4, na5, na6, na7, na8, na9, na10, na11, na12, na13, na14, na15, na16, na17, na18, na19, na20⟩ := id L9
  obtain ⟨fa0, fa1, fa2, fa3, fa4, fa5, fa6, fa7, fa8, fa9, fa10, fa11, fa12, fa13, fa14, fa15, fa16, fa17, fa18, fa19, fa20⟩ := id L30
  obtain ⟨hR, hI, hCH, hCS⟩ := id hC
  obtain ⟨hx, hO, hN, hD, hW, hE, hA⟩ := id hI
  obtain ⟨ix1, ix2, ix3, ix4, iy1, iy2, iy3, iy4⟩ := id hx
  refine xr_entry (lv := [some (.ref (xad E 0)), some (.int y)]) (by decide +kernel) (by simp [Value.category]) (Nat.le_of_ble_eq_true rfl) rfl (fun w hw cx cz => ?_)
  subst hw
  refine xr_iload_1 cx dX8_wouldBe_0 ?_
  refine xr_if_lt (tgt := 9) cx dX8_wouldBe_1 (by decide) (fun cq1 => ?_) (fun cq1 => ?_)
  · refine xr_bipush (v := -2) cx dX8_wouldBe_9 (by decide) ?_
    refine xr_iret cx cz dX8_wouldBe_11 rfl ?_
    have h2 := h σ (fun k hk => rfl)
    unfold oWould at h2
    first | (rw [xsel_out (n := 6) rfl (by decide) (fun j hj e => by rw [e] at cq1; exact nI_pos (show j < 2 ^ 31 by omega) cq1)] at h2; exact h2) | (rw [xsel_out (n := 6) rfl (by decide) (fun j hj e => by rw [e] at cq6; exact cq6 (nI_le (a := j) (b := 5) (by omega) (by decide)))] at h2; exact h2)
  · refine xr_iload_1 cx dX8_wouldBe_4 ?_
    refine xr_iconst (v := 5) cx dX8_wouldBe_5 (by decide) ?_
    refine xr_icmp_le (tgt := 12) cx dX8_wouldBe_6 (by decide) (fun cq6 => ?_) (fun cq6 => ?_)
    · refine xr_aload_0 cx dX8_wouldBe_12 ?_
      refine xr_getR cx dX8_wouldBe_13 fl_X8_16 g8 rfl ?_
      refine xr_aload_0 cx dX8_wouldBe_16 ?_
      refine xr_getR cx dX8_wouldBe_17 fl_X8_10 g8 rfl ?_
      refine xr_V1v (ν := mX2_copyFrom) cx dX8_wouldBe_20 rfl ml_X8_164 vf_X2_copyFrom fa0 (Nat.le_of_ble_eq_true rfl) (m_X2_copyFrom L30 L9 (by decide) ?_)
      refine xr_aload_0 cx dX8_wouldBe_23 ?_
      refine xr_getR cx dX8_wouldBe_24 fl_X8_16 g8 rfl ?_
      refine xr_V0i (ν := mX2_writeAll) cx dX8_wouldBe_27 rfl ml_X8_203 vf_X2_writeAll fa0 (Nat.le_of_ble_eq_true rfl) (m_X2_writeAll L30 (RB_cpL hR (by decide)) hI (fun τ r1 f1 => ?_))
      have hq : CQ σ τ := fun k hk => (f1 k (by omega)).trans (xfr_cpL (b := 22) k (by omega))
      have hRn : RB τ 1 a := RB_fr hR (fun i hi => hq _ (by omega))
      refine xr_pop cx dX8_wouldBe_30 rfl ?_
      refine xr_iload_1 cx dX8_wouldBe_31 ?_
      refine xr_tsw (n := 5) (tgtd := 178) cx dX8_wouldBe_32 (by decide) (by decide) (by decide) (xn_5 (fun cq32 => ⟨36, 68, by decide, by decide, ?_⟩) (fun cq32 => ⟨58, 90, by decide, by decide, ?_⟩) (fun cq32 => ⟨80, 112, by decide, by decide, ?_⟩) (fun cq32 => ⟨102, 134, by decide, by decide, ?_⟩) (fun cq32 => ⟨124, 156, by decide, by decide, ?_⟩)) (fun cq32 => ?_)
      · refine xr_aload_0 cx dX8_wouldBe_68 ?_
        refine xr_getR cx dX8_wouldBe_69 fl_X8_16 g8 rfl ?_
        refine xr_getR cx dX8_wouldBe_72 fl_X8_44 fa0 rfl ?_
        refine xr_getI cx dX8_wouldBe_75 fl_X8_206 fa6 rfl ?_
        refine xr_aload_0 cx dX8_wouldBe_78 ?_
        refine xr_getR cx dX8_wouldBe_79 fl_X8_10 g8 rfl ?_
        refine xr_getR cx dX8_wouldBe_82 fl_X8_44 na0 rfl ?_
        refine xr_getI cx dX8_wouldBe_85 fl_X8_206 na6 rfl ?_
        rw [RB_pulls r1, RB_pulls hRn]
        refine xr_isub cx dX8_wouldBe_88 ?_
        refine xr_iret cx cz dX8_wouldBe_89 rfl ?_
        have h2 := h τ hq
        rw [show oWould a y = _ from xsel_in cq32 (j := 0) rfl (by simp)] at h2
        exact h2
      · refine xr_aload_0 cx dX8_wouldBe_90 ?_
        refine xr_getR cx dX8_wouldBe_91 fl_X8_16 g8 rfl ?_
        refine xr_getR cx dX8_wouldBe_94 fl_X8_44 fa0 rfl ?_
        refine xr_V0i (ν := mX0_allWipes) cx dX8_wouldBe_97 rfl ml_X8_209 vf_X0_allWipes fa6 (Nat.le_of_ble_eq_true rfl) (m_X0_allWipes L30 ?_)
        rw [wip_eq r1 (mRun_inv 30 0 hI)]
        refine xr_aload_0 cx dX8_wouldBe_100 ?_
        refine xr_getR cx dX8_wouldBe_101 fl_X8_10 g8 rfl ?_
        refine xr_getR cx dX8_wouldBe_104 fl_X8_44 na0 rfl ?_
        refine xr_V0i (ν := mX0_allWipes) cx dX8_wouldBe_107 rfl ml_X8_209 vf_X0_allWipes na6 (Nat.le_of_ble_eq_true rfl) (m_X0_allWipes L9 ?_)
        rw [wip_eq hRn hI]
        refine xr_isub cx dX8_wouldBe_110 ?_
        refine xr_iret cx cz dX8_wouldBe_111 rfl ?_
        have h2 := h τ hq
        rw [show oWould a y = _ from xsel_in cq32 (j := 1) rfl (by simp)] at h2
        exact h2
      · refine xr_aload_0 cx dX8_wouldBe_112 ?_
        refine xr_getR cx dX8_wouldBe_113 fl_X8_16 g8 rfl ?_
        refine xr_getR cx dX8_wouldBe_116 fl_X8_185 fa0 rfl ?_
        refine xr_getI cx dX8_wouldBe_119 fl_X8_212 fa18 rfl ?_
        refine xr_aload_0 cx dX8_wouldBe_122 ?_
        refine xr_getR cx dX8_wouldBe_123 fl_X8_10 g8 rfl ?_
        refine xr_getR cx dX8_wouldBe_126 fl_X8_185 na0 rfl ?_
        refine xr_getI cx dX8_wouldBe_129 fl_X8_212 na18 rfl ?_
        rw [RB_tally r1 (i := 1) (by decide), RB_tally hRn (i := 1) (by decide)]
        refine xr_isub cx dX8_wouldBe_132 ?_
        refine xr_iret cx cz dX8_wouldBe_133 rfl ?_
        have h2 := h τ hq
        rw [show oWould a y = _ from xsel_in cq32 (j := 2) rfl (by simp)] at h2
        exact h2
      · refine xr_aload_0 cx dX8_wouldBe_134 ?_
        refine xr_getR cx dX8_wouldBe_135 fl_X8_16 g8 rfl ?_
        refine xr_getR cx dX8_wouldBe_138 fl_X8_185 fa0 rfl ?_
        refine xr_getI cx dX8_wouldBe_141 fl_X8_215 fa18 rfl ?_
        refine xr_aload_0 cx dX8_wouldBe_144 ?_
        refine xr_getR cx dX8_wouldBe_145 fl_X8_10 g8 rfl ?_
        refine xr_getR cx dX8_wouldBe_148 fl_X8_185 na0 rfl ?_
        refine xr_getI cx dX8_wouldBe_151 fl_X8_215 na18 rfl ?_
        rw [RB_tally r1 (i := 2) (by decide), RB_tally hRn (i := 2) (by decide)]
        refine xr_isub cx dX8_wouldBe_154 ?_
        refine xr_iret cx cz dX8_wouldBe_155 rfl ?_
        have h2 := h τ hq
        rw [show oWould a y = _ from xsel_in cq32 (j := 3) rfl (by simp)] at h2
        exact h2
      · refine xr_aload_0 cx dX8_wouldBe_156 ?_
        refine xr_getR cx dX8_wouldBe_157 fl_X8_16 g8 rfl ?_
        refine xr_getR cx dX8_wouldBe_160 fl_X8_185 fa0 rfl ?_
        refine xr_getI cx dX8_wouldBe_163 fl_X8_218 fa18 rfl ?_
        refine xr_aload_0 cx dX8_wouldBe_166 ?_
        refine xr_getR cx dX8_wouldBe_167 fl_X8_10 g8 rfl ?_
        refine xr_getR cx dX8_wouldBe_170 fl_X8_185 na0 rfl ?_
        refine xr_getI cx dX8_wouldBe_173 fl_X8_218 na18 rfl ?_
        rw [RB_tally r1 (i := 3) (by decide), RB_tally hRn (i := 3) (by decide)]
        refine xr_isub cx dX8_wouldBe_176 ?_
        refine xr_iret cx cz dX8_wouldBe_177 rfl ?_
        have h2 := h τ hq
        rw [show oWould a y = _ from xsel_in cq32 (j := 4) rfl (by simp)] at h2
        exact h2
      · refine xr_aload_0 cx dX8_wouldBe_178 ?_
        refine xr_getR cx dX8_wouldBe_179 fl_X8_16 g8 rfl ?_
        refine xr_getR cx dX8_wouldBe_182 fl_X8_58 fa0 rfl ?_
        refine xr_getI cx dX8_wouldBe_185 fl_X8_145 fa1 rfl ?_
        refine xr_aload_0 cx dX8_wouldBe_188 ?_
        refine xr_getR cx dX8_wouldBe_189 fl_X8_10 g8 rfl ?_
        refine xr_getR cx dX8_wouldBe_192 fl_X8_58 na0 rfl ?_
        refine xr_getI cx dX8_wouldBe_195 fl_X8_145 na1 rfl ?_
        rw [RB_written r1, RB_written hRn]
        refine xr_isub cx dX8_wouldBe_198 ?_
        refine xr_iret cx cz dX8_wouldBe_199 rfl ?_
        have h2 := h τ hq
        have hy5 : y = nI 5 := by
          obtain ⟨j, hj, rfl⟩ := nI_of cq1
          have hj5 : j ≤ 5 := (nI_leI hj (by decide)).mp (show nI j ≤ nI 5 from cq6)
          by_cases e : j = 5
          · rw [e]
          · exact absurd rfl (cq32 j (by omega))
        rw [show oWould a y = _ from xsel_in hy5 (j := 5) rfl (by simp)] at h2
        exact h2
    · refine xr_bipush (v := -2) cx dX8_wouldBe_9 (by decide) ?_
      refine xr_iret cx cz dX8_wouldBe_11 rfl ?_
      have h2 := h σ (fun k hk => rfl)
      unfold oWould at h2
      first | (rw [xsel_out (n := 6) rfl (by decide) (fun j hj e => by rw [e] at cq1; exact nI_pos (show j < 2 ^ 31 by omega) cq1)] at h2; exact h2) | (rw [xsel_out (n := 6) rfl (by decide) (fun j hj e => by rw [e] at cq6; exact cq6 (nI_le (a := j) (b := 5) (by omega) (by decide)))] at h2; exact h2)
theorem m_X8_count {l : Launch} {E : XEnv} {d : Nat} {σ : XSt} {a : Nat → Int32} {hl : List (Nat → Int32)} {sn : Option (Nat → Int32)} {Q : Int32 → XSt → Prop} {y : Int32} {tn : Nat} (hG : xGl E) (hC : CRel σ a hl sn) (hT : σ 150 3 = nI tn) (h : Q (oCount a hl.length tn y) σ) : XMi l E (d + 5) mX8_count [.ref (xad E 0), .int y] σ Q := by
  obtain ⟨g8, g72, g73, g158, g159, g160, g161, g162, g163, L9, L30, L51, L74, L95, L116, L137⟩ := id hG
  obtain ⟨na0, na1, na2, na3, na4, na5, na6, na7, na8, na9, na10, na11, na12, na13, na14, na15, na16, na17, na18, na19, na20⟩ := id L9
  obtain ⟨hR, hI, hCH, hCS⟩ := id hC
  obtain ⟨hx, hO, hN, hD, hW, hE, hA⟩ := id hI
  obtain ⟨ix1, ix2, ix3, ix4, iy1, iy2, iy3, iy4⟩ := id hx
  refine xr_entry (lv := [some (.ref (xad E 0)), some (.int y)]) (by decide +kernel) (by simp [Value.category]) (Nat.le_of_ble_eq_true rfl) rfl (fun w hw cx cz => ?_)
  subst hw
  refine xr_iload_1 cx dX8_count_0 ?_
  refine xr_tsw (n := 16) (tgtd := 247) cx dX8_count_1 (by decide) (by decide) (by decide) (xn_16 (fun cq1 => ⟨79, 80, by decide, by decide, ?_⟩) (fun cq1 => ⟨90, 91, by decide, by decide, ?_⟩) (fun cq1 => ⟨101, 102, by decide, by decide, ?_⟩) (fun cq1 => ⟨112, 113, by decide, by decide, ?_⟩) (fun cq1 => ⟨123, 124, by decide, by decide, ?_⟩) (fun cq1 => ⟨134, 135, by decide, by decide, ?_⟩) (fun cq1 => ⟨145, 146, by decide, by decide, ?_⟩) (fun cq1 => ⟨156, 157, by decide, by decide, ?_⟩) (fun cq1 => ⟨167, 168, by decide, by decide, ?_⟩) (fun cq1 => ⟨178, 179, by decide, by decide, ?_⟩) (fun cq1 => ⟨189, 190, by decide, by decide, ?_⟩) (fun cq1 => ⟨200, 201, by decide, by decide, ?_⟩) (fun cq1 => ⟨211, 212, by decide, by decide, ?_⟩) (fun cq1 => ⟨219, 220, by decide, by decide, ?_⟩) (fun cq1 => ⟨230, 231, by decide, by decide, ?_⟩) (fun cq1 => ⟨238, 239, by decide, by decide, ?_⟩)) (fun cq1 => ?_)
  · refine xr_aload_0 cx dX8_count_80 ?_
    refine xr_getR cx dX8_count_81 fl_X8_10 g8 rfl ?_
    refine xr_getR cx dX8_count_84 fl_X8_58 na0 rfl ?_
    refine xr_getI cx dX8_count_87 fl_X8_62 na1 rfl ?_
    rw [RB_planned hR]
    refine xr_iret cx cz dX8_count_90 rfl ?_
    rw [show oCount a hl.length tn y = _ from xsel_in cq1 (j := 0) rfl (by simp)] at h
    exact h
  · refine xr_aload_0 cx dX8_count_91 ?_
    refine xr_getR cx dX8_count_92 fl_X8_10 g8 rfl ?_
    refine xr_getR cx dX8_count_95 fl_X8_58 na0 rfl ?_
    refine xr_getI cx dX8_count_98 fl_X8_145 na1 rfl ?_
    rw [RB_written hR]
    refine xr_iret cx cz dX8_count_101 rfl ?_
    rw [show oCount a hl.length tn y = _ from xsel_in cq1 (j := 1) rfl (by simp)] at h
    exact h
  · refine xr_aload_0 cx dX8_count_102 ?_
    refine xr_getR cx dX8_count_103 fl_X8_10 g8 rfl ?_
    refine xr_getR cx dX8_count_106 fl_X8_44 na0 rfl ?_
    refine xr_getI cx dX8_count_109 fl_X8_221 na6 rfl ?_
    rw [RB_use hR]
    refine xr_iret cx cz dX8_count_112 rfl ?_
    rw [show oCount a hl.length tn y = _ from xsel_in cq1 (j := 2) rfl (by simp)] at h
    exact h
  · refine xr_aload_0 cx dX8_count_113 ?_
    refine xr_getR cx dX8_count_114 fl_X8_10 g8 rfl ?_
    refine xr_getR cx dX8_count_117 fl_X8_44 na0 rfl ?_
    refine xr_getI cx dX8_count_120 fl_X8_206 na6 rfl ?_
    rw [RB_pulls hR]
    refine xr_iret cx cz dX8_count_123 rfl ?_
    rw [show oCount a hl.length tn y = _ from xsel_in cq1 (j := 3) rfl (by simp)] at h
    exact h
  · refine xr_aload_0 cx dX8_count_124 ?_
    refine xr_getR cx dX8_count_125 fl_X8_10 g8 rfl ?_
    refine xr_getR cx dX8_count_128 fl_X8_44 na0 rfl ?_
    refine xr_V0i (ν := mX0_allWipes) cx dX8_count_131 rfl ml_X8_209 vf_X0_allWipes na6 (Nat.le_of_ble_eq_true rfl) (m_X0_allWipes L9 ?_)
    rw [wip_eq hR hI]
    refine xr_iret cx cz dX8_count_134 rfl ?_
    rw [show oCount a hl.length tn y = _ from xsel_in cq1 (j := 4) rfl (by simp)] at h
    exact h
  · refine xr_aload_0 cx dX8_count_135 ?_
    refine xr_getR cx dX8_count_136 fl_X8_10 g8 rfl ?_
    refine xr_getR cx dX8_count_139 fl_X8_127 na0 rfl ?_
    refine xr_getI cx dX8_count_142 fl_X8_131 na13 rfl ?_
    rw [RB_taken hR]
    refine xr_iret cx cz dX8_count_145 rfl ?_
    rw [show oCount a hl.length tn y = _ from xsel_in cq1 (j := 5) rfl (by simp)] at h
    exact h
  · refine xr_aload_0 cx dX8_count_146 ?_
    refine xr_getR cx dX8_count_147 fl_X8_10 g8 rfl ?_
    refine xr_getR cx dX8_count_150 fl_X8_185 na0 rfl ?_
    refine xr_getI cx dX8_count_153 fl_X8_212 na18 rfl ?_
    rw [RB_tally hR (i := 1) (by decide)]
    refine xr_iret cx cz dX8_count_156 rfl ?_
    rw [show oCount a hl.length tn y = _ from xsel_in cq1 (j := 6) rfl (by simp)] at h
    exact h
  · refine xr_aload_0 cx dX8_count_157 ?_
    refine xr_getR cx dX8_count_158 fl_X8_10 g8 rfl ?_
    refine xr_getR cx dX8_count_161 fl_X8_185 na0 rfl ?_
    refine xr_getI cx dX8_count_164 fl_X8_215 na18 rfl ?_
    rw [RB_tally hR (i := 2) (by decide)]
    refine xr_iret cx cz dX8_count_167 rfl ?_
    rw [show oCount a hl.length tn y = _ from xsel_in cq1 (j := 7) rfl (by simp)] at h
    exact h
  · refine xr_aload_0 cx dX8_count_168 ?_
    refine xr_getR cx dX8_count_169 fl_X8_10 g8 rfl ?_
    refine xr_getR cx dX8_count_172 fl_X8_185 na0 rfl ?_
    refine xr_getI cx dX8_count_175 fl_X8_218 na18 rfl ?_
    rw [RB_tally hR (i := 3) (by decide)]
    refine xr_iret cx cz dX8_count_178 rfl ?_
    rw [show oCount a hl.length tn y = _ from xsel_in cq1 (j := 8) rfl (by simp)] at h
    exact h
  · refine xr_aload_0 cx dX8_count_179 ?_
    refine xr_getR cx dX8_count_180 fl_X8_10 g8 rfl ?_
    refine xr_getR cx dX8_count_183 fl_X8_185 na0 rfl ?_
    refine xr_getI cx dX8_count_186 fl_X8_224 na18 rfl ?_
    rw [RB_tally hR (i := 4) (by decide)]
    refine xr_iret cx cz dX8_count_189 rfl ?_
    rw [show oCount a hl.length tn y = _ from xsel_in cq1 (j := 9) rfl (by simp)] at h
    exact h
  · refine xr_aload_0 cx dX8_count_190 ?_
    refine xr_getR cx dX8_count_191 fl_X8_10 g8 rfl ?_
    refine xr_getR cx dX8_count_194 fl_X8_185 na0 rfl ?_
    refine xr_getI cx dX8_count_197 fl_X8_227 na18 rfl ?_
    rw [RB_tally hR (i := 5) (by decide)]
    refine xr_iret cx cz dX8_count_200 rfl ?_
    rw [show oCount a hl.length tn y = _ from xsel_in cq1 (j := 10) rfl (by simp)] at h
    exact h
  · refine xr_aload_0 cx dX8_count_201 ?_
    refine xr_getR cx dX8_count_202 fl_X8_10 g8 rfl ?_
    refine xr_getR cx dX8_count_205 fl_X8_185 na0 rfl ?_
    refine xr_getI cx dX8_count_208 fl_X8_230 na18 rfl ?_
    rw [RB_tally hR (i := 6) (by decide)]
    refine xr_iret cx cz dX8_count_211 rfl ?_
    rw [show oCount a hl.length tn y = _ from xsel_in cq1 (j := 11) rfl (by simp)] at h
    exact h
  · refine xr_aload_0 cx dX8_count_212 ?_
    refine xr_getR cx dX8_count_213 fl_X8_10 g8 rfl ?_
    refine xr_V0i (ν := mX2_stepsGone) cx dX8_count_216 rfl ml_X8_233 vf_X2_stepsGone na0 (Nat.le_of_ble_eq_true rfl) (m_X2_stepsGone L9 hR ?_)
    refine xr_iret cx cz dX8_count_219 rfl ?_
    rw [show oCount a hl.length tn y = _ from xsel_in cq1 (j := 12) rfl (by simp)] at h
    exact h
  · refine xr_aload_0 cx dX8_count_220 ?_
    refine xr_getR cx dX8_count_221 fl_X8_10 g8 rfl ?_
    refine xr_getR cx dX8_count_224 fl_X8_44 na0 rfl ?_
    refine xr_getI cx dX8_count_227 fl_X8_48 na6 rfl ?_
    rw [RB_room hR]
    refine xr_iret cx cz dX8_count_230 rfl ?_
    rw [show oCount a hl.length tn y = _ from xsel_in cq1 (j := 13) rfl (by simp)] at h
    exact h
  · refine xr_aload_0 cx dX8_count_231 ?_
    refine xr_getR cx dX8_count_232 fl_X8_25 g8 rfl ?_
    refine xr_getI cx dX8_count_235 fl_X8_158 g72 rfl ?_
    rw [CH_size hCH]
    refine xr_iret cx cz dX8_count_238 rfl ?_
    rw [show oCount a hl.length tn y = _ from xsel_in cq1 (j := 14) rfl (by simp)] at h
    exact h
  · refine xr_aload_0 cx dX8_count_239 ?_
    refine xr_getR cx dX8_count_240 fl_X8_32 g8 rfl ?_
    refine xr_getI cx dX8_count_243 fl_X8_151 g158 rfl ?_
    rw [hT]
    refine xr_iret cx cz dX8_count_246 rfl ?_
    rw [show oCount a hl.length tn y = _ from xsel_in cq1 (j := 15) rfl (by simp)] at h
    exact h
  · refine xr_bipush (v := -2) cx dX8_count_247 (by decide) ?_
    refine xr_iret cx cz dX8_count_249 rfl ?_
    rw [show oCount a hl.length tn y = _ from xsel_out (n := 16) rfl (by decide) cq1] at h
    exact h
