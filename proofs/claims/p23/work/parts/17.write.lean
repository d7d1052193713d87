section WR
variable {a : Nat → Int32} {p : Nat}
theorem mRot_lt {u q : Nat} (h : mRot a u = some q) : q < 6 ∧ mPin a q = false := by
  unfold mRot at h
  cases hx : xfst (fun k => !mPin a ((u + k) % 6)) 5 1 with
  | none => rw [hx] at h; cases h
  | some k =>
    rw [hx] at h
    cases h
    exact ⟨Nat.mod_lt _ (by decide), by have := (xfst_some hx).2.2; simpa using this⟩
theorem mNext_lt (h : mNext a = some p) (hu : mUs a < 6) : p < 6 := by
  unfold mNext at h
  by_cases c : mLines a (mUs a) + a (109 + mWr a) ≤ a 0
  · rw [if_pos c] at h; cases h; exact hu
  · rw [if_neg c] at h; exact (mRot_lt h).1
theorem mUse_fp {k : Nat} (h1 : k ≠ 17 + p) (h2 : k ≠ 23 + p) (h3 : k ≠ 9) (h4 : k ≠ 3) : mUse a p k = a k := by
  unfold mUse
  split
  · rfl
  · unfold mWipe
    rw [upd_ne _ _ h4, upd_ne _ _ h3, upd_ne _ _ h2, upd_ne _ _ h1]
theorem mUse_3 (h : a 3 = nI (mUs a)) : mUse a p 3 = nI p := by
  unfold mUse
  split
  · rename_i e; rw [e]; exact h
  · exact upd_same _ _ _
theorem mUse_on {q : Nat} (hp : p < 6) (hq : q < 6) : mUse a p (17 + q) = if q = p ∧ p ≠ mUs a then 0 else a (17 + q) := by
  unfold mUse
  by_cases e : p = mUs a
  · rw [if_pos e, if_neg (fun z => z.2 e)]
  · rw [if_neg e]
    unfold mWipe
    rw [upd_ne _ _ (by omega), upd_ne _ _ (by omega), upd_ne _ _ (by omega)]
    by_cases e2 : q = p
    · subst e2; rw [upd_same, if_pos ⟨rfl, e⟩]
    · rw [upd_ne _ _ (by omega), if_neg (fun z => e2 z.1)]
theorem mUse_wiped {q : Nat} (hp : p < 6) (hq : q < 6) : mUse a p (23 + q) = if q = p ∧ p ≠ mUs a then a (23 + q) + 1 else a (23 + q) := by
  unfold mUse
  by_cases e : p = mUs a
  · rw [if_pos e, if_neg (fun z => z.2 e)]
  · rw [if_neg e]
    unfold mWipe
    rw [upd_ne _ _ (by omega), upd_ne _ _ (by omega)]
    by_cases e2 : q = p
    · subst e2; rw [upd_same, if_pos ⟨rfl, e⟩]
    · rw [upd_ne _ _ (by omega), upd_ne _ _ (by omega), if_neg (fun z => e2 z.1)]
theorem mUse_9 (hp : p < 6) : mUse a p 9 = if p ≠ mUs a then a 9 + 1 else a 9 := by
  unfold mUse
  by_cases e : p = mUs a
  · rw [if_pos e, if_neg (fun z => z e)]
  · rw [if_neg e, if_pos e]
    unfold mWipe
    rw [upd_ne _ _ (by decide), upd_same]
theorem mBring_fp {k : Nat} (hp : p < 6) (h : k < 4 ∨ k = 7 ∨ 9 ≤ k) : mBring a p k = a k := by
  unfold mBring
  split
  · rfl
  · unfold mPull
    rw [upd_ne _ _ (by omega), upd_ne _ _ (by omega)]
theorem mBring_wr (hp : p < 6) : mWr (mBring a p) = mWr a := mWr_e (mBring_fp hp (by decide))
theorem mUse_wr (hp : p < 6) : mWr (mUse a p) = mWr a := mWr_e (mUse_fp (by omega) (by omega) (by decide) (by decide))
theorem mBear_fp {k : Nat} (h : k ≠ 17 + p) (h2 : k ≠ 2) : mBear a p k = a k := by
  unfold mBear
  rw [upd_ne _ _ h2, upd_ne _ _ h]
theorem mBear_on : mBear a p (17 + p) = a (17 + p) ||| xbit (mWr a) := by
  unfold mBear
  rw [upd_ne _ _ (by omega), upd_same]
theorem mBear_2 : mBear a p 2 = a 2 + 1 := by
  unfold mBear
  rw [upd_same]
theorem mWrite_fp {k : Nat} (hp : p < 6) (h : k < 2 ∨ k = 7 ∨ k = 10 ∨ (29 ≤ k ∧ k < 199)) : mWrite a p k = a k := by
  unfold mWrite
  rw [mLooks_fp (by omega), mBear_fp (by omega) (by omega), mBring_fp hp (by omega), mUse_fp (by omega) (by omega) (by omega) (by omega)]
theorem mWrite_2 (hp : p < 6) : mWrite a p 2 = a 2 + 1 := by
  unfold mWrite
  rw [mLooks_fp (by omega), mBear_2, mBring_fp hp (by omega), mUse_fp (by omega) (by omega) (by omega) (by omega)]
theorem mWrite_3 (hp : p < 6) (h : a 3 = nI (mUs a)) : mWrite a p 3 = nI p := by
  unfold mWrite
  rw [mLooks_fp (by omega), mBear_fp (by omega) (by omega), mBring_fp hp (by omega), mUse_3 h]
theorem mWrite_on {q : Nat} (hp : p < 6) (hq : q < 6) : mWrite a p (17 + q) = if q = p then (if p ≠ mUs a then 0 else a (17 + p)) ||| xbit (mWr a) else a (17 + q) := by
  unfold mWrite
  rw [mLooks_fp (by omega)]
  by_cases e : q = p
  · subst e
    rw [mBear_on, mBring_fp hp (by omega), mUse_on hp hp, mBring_wr hp, mUse_wr hp, if_pos rfl]
    by_cases e2 : q = mUs a
    · rw [if_neg (fun z => z.2 e2), if_neg (fun z => z e2)]
    · rw [if_pos ⟨rfl, e2⟩, if_pos e2]
  · rw [mBear_fp (by omega) (by omega), mBring_fp hp (by omega), mUse_on hp hq, if_neg (fun z => e z.1), if_neg e]
theorem mWrite_wiped {q : Nat} (hp : p < 6) (hq : q < 6) : mWrite a p (23 + q) = if q = p ∧ p ≠ mUs a then a (23 + q) + 1 else a (23 + q) := by
  unfold mWrite
  rw [mLooks_fp (by omega), mBear_fp (by omega) (by omega), mBring_fp hp (by omega), mUse_wiped hp hq]
theorem mWrite_9 (hp : p < 6) : mWrite a p 9 = if p ≠ mUs a then a 9 + 1 else a 9 := by
  unfold mWrite
  rw [mLooks_fp (by omega), mBear_fp (by omega) (by omega), mBring_fp hp (by omega), mUse_9 hp]
theorem mWrite_need {t : Nat} (hp : p < 6) (hw : mWr a < 30) : mWrite a p (199 + t) = if t < mWr a ∧ bt (a (139 + mWr a)) t = true then a (199 + t) + 1 else a (199 + t) := by
  unfold mWrite
  rw [mLooks_need (by omega), mBear_fp (by omega) (by omega), mBring_fp hp (by omega), mUse_fp (by omega) (by omega) (by omega) (by omega), mBear_fp (by omega) (by omega), mBring_fp hp (by omega), mUse_fp (by omega) (by omega) (by omega) (by omega)]
theorem sum6 (f : Nat → Int32) : xit (fun p acc => acc + f p) 6 0 0 = 0 + f 0 + f 1 + f 2 + f 3 + f 4 + f 5 := rfl
theorem sum6_up {f g : Nat → Int32} (hp : p < 6) (h1 : g p = f p + 1) (h2 : ∀ q, q < 6 → q ≠ p → g q = f q) : xit (fun p acc => acc + g p) 6 0 0 = xit (fun p acc => acc + f p) 6 0 0 + 1 := by
  rw [sum6, sum6]
  rcases (show p = 0 ∨ p = 1 ∨ p = 2 ∨ p = 3 ∨ p = 4 ∨ p = 5 by omega) with rfl | rfl | rfl | rfl | rfl | rfl
  · rw [h1, h2 1 (by decide) (by decide), h2 2 (by decide) (by decide), h2 3 (by decide) (by decide), h2 4 (by decide) (by decide), h2 5 (by decide) (by decide)]; ac_rfl
  · rw [h1, h2 0 (by decide) (by decide), h2 2 (by decide) (by decide), h2 3 (by decide) (by decide), h2 4 (by decide) (by decide), h2 5 (by decide) (by decide)]; ac_rfl
  · rw [h1, h2 0 (by decide) (by decide), h2 1 (by decide) (by decide), h2 3 (by decide) (by decide), h2 4 (by decide) (by decide), h2 5 (by decide) (by decide)]; ac_rfl
  · rw [h1, h2 0 (by decide) (by decide), h2 1 (by decide) (by decide), h2 2 (by decide) (by decide), h2 4 (by decide) (by decide), h2 5 (by decide) (by decide)]; ac_rfl
  · rw [h1, h2 0 (by decide) (by decide), h2 1 (by decide) (by decide), h2 2 (by decide) (by decide), h2 3 (by decide) (by decide), h2 5 (by decide) (by decide)]; ac_rfl
  · rw [h1, h2 0 (by decide) (by decide), h2 1 (by decide) (by decide), h2 2 (by decide) (by decide), h2 3 (by decide) (by decide), h2 4 (by decide) (by decide)]; ac_rfl
theorem mWrite_ix (hI : xIx a) (hp : p < 6) (hw : mWr a < mSt a) : xIx (mWrite a p) ∧ mSt (mWrite a p) = mSt a ∧ mWr (mWrite a p) = mWr a + 1 ∧ mUs (mWrite a p) = p ∧ mTk (mWrite a p) = mTk a := by
  obtain ⟨ix1, ix2, ix3, ix4, iy1, iy2, iy3, iy4⟩ := id hI
  exact xIx_mk ((mWrite_fp hp (by decide)).trans ix1) ((mWrite_2 hp).trans (by rw [ix2, nI_1])) (mWrite_3 hp ix3) ((mWrite_fp hp (by decide)).trans ix4) hw iy2 hp iy4
theorem mWrite_ph (hp : p < 6) (hI : xIx a) : mPh (mWrite a p) = mPh a := by
  have := hI.2.2.2.2.2.2.2
  exact mPh_e (mWrite_fp hp (by decide)) (fun k hk => mWrite_fp hp (by omega))
theorem mWrite_inv (hI : xInv a) (hp : p < 6) (hw : mWr a < mSt a) : xInv (mWrite a p) := by
  obtain ⟨hx, hO, hN, hD, hW, hE, hA⟩ := hI
  obtain ⟨ix1, ix2, ix3, ix4, iy1, iy2, iy3, iy4⟩ := id hx
  obtain ⟨jx, e1, e2, e3, e4⟩ := mWrite_ix hx hp hw
  refine ⟨jx, ?_, ?_, ?_, ?_, ?_, ?_⟩
  · intro q hq s hs1 hs2
    rw [e2] at hs1
    rw [mWrite_on hp hq]
    by_cases e : q = p
    · rw [if_pos e, b_or, bt_xbit (by omega) hs2, decide_eq_false (by omega), Bool.or_false]
      by_cases e5 : p = mUs a
      · rw [if_neg (fun z => z e5)]; exact hO p hp s (by omega) hs2
      · rw [if_pos e5]; exact b_0 s
    · rw [if_neg e]; exact hO q hq s (by omega) hs2
  · intro s hs k hk1 hk2
    rw [e1] at hs
    rw [mWrite_fp hp (by omega)]
    exact hN s hs k hk1 hk2
  · intro q r hq hr hqr s hs
    rw [mWrite_on hp hq, mWrite_on hp hr]
    by_cases e : q = p
    · subst e
      rw [if_pos rfl, if_neg (show ¬ r = q from fun z => hqr z.symm), b_or, bt_xbit (by omega) hs]
      intro h
      rcases Bool.or_eq_true_iff.mp h with h1 | h1
      · by_cases e5 : q = mUs a
        · rw [if_neg (show ¬ q ≠ mUs a from fun z => z e5)] at h1; exact hD q r hq hr hqr s hs h1
        · rw [if_pos (show q ≠ mUs a from e5), b_0] at h1; cases h1
      · have : s = mWr a := by simpa using h1
        rw [this]; exact hO r hr _ (Nat.le_refl _) (by omega)
    · rw [if_neg e]
      by_cases e6 : r = p
      · subst e6
        rw [if_pos rfl, b_or, bt_xbit (by omega) hs]
        intro h
        have hs2 : s ≠ mWr a := by
          intro z; rw [z, hO q hq _ (Nat.le_refl _) (by omega)] at h; cases h
        rw [decide_eq_false hs2, Bool.or_false]
        by_cases e5 : r = mUs a
        · rw [if_neg (show ¬ r ≠ mUs a from fun z => z e5)]; exact hD q r hq hr hqr s hs h
        · rw [if_pos e5]; exact b_0 s
      · rw [if_neg e6]; exact hD q r hq hr hqr s hs
  · show mWrite a p 9 = _
    rw [mWrite_9 hp]
    by_cases e5 : p = mUs a
    · rw [if_neg (fun z => z e5), hW]
      exact xit_cong 6 0 0 (fun k y h1 h2 => by rw [mWrite_wiped hp (by omega), if_neg (fun z => z.2 e5)])
    · rw [if_pos e5, hW]
      exact (sum6_up (f := fun q => a (23 + q)) (g := fun q => mWrite a p (23 + q)) hp (by rw [mWrite_wiped hp hp, if_pos ⟨rfl, e5⟩]) (fun q hq hqp => by rw [mWrite_wiped hp hq, if_neg (fun z => hqp z.1)])).symm
  · intro s hs
    rw [mWrite_need hp (by omega), e2, hE s hs]
    have hc : ∀ n i x, i + n ≤ 30 → xit (fun k acc => if bt (mWrite a p (139 + k)) s = true then acc + 1 else acc) n i x = xit (fun k acc => if bt (a (139 + k)) s = true then acc + 1 else acc) n i (x : Int32) :=
      fun n i x hni => xit_cong n i x (fun k y h1 h2 => by rw [mWrite_fp hp (by omega)])
    rw [hc _ _ _ (by omega)]
    by_cases h1 : s < mWr a
    · rw [show mWr a + 1 - (s + 1) = (mWr a - (s + 1)) + 1 by omega, xit_last, show s + 1 + (mWr a - (s + 1)) = mWr a by omega]
      by_cases h2 : bt (a (139 + mWr a)) s = true
      · rw [if_pos ⟨h1, h2⟩, if_pos h2]
      · rw [if_neg (fun z => h2 z.2), if_neg h2]
    · rw [if_neg (fun z => h1 z.1), show mWr a - (s + 1) = 0 by omega, show mWr a + 1 - (s + 1) = 0 by omega]
  · intro s hs1 hs2
    rw [e1] at hs1
    rw [mWrite_fp hp (by omega)]
    exact hA s hs1 hs2
theorem looks_eq {w : Nat} {N : Int32} (hN : a (139 + w) = N) (hw : w ≤ 30) (hb : ∀ k, w ≤ k → k < 32 → bt N k = false) : xit (fun s x => if bt N s = true then mLook x s else x) 30 0 a = mLooks a w w := by
  rw [show 30 = w + (30 - w) by omega, xit_add, xit_id (30 - w) _ _ (fun k y h1 h2 => by rw [hb k (by omega) (by omega), if_neg (by decide)])]
  have : ∀ n, xit (fun s x => if bt N s = true then mLook x s else x) n 0 a = mLooks a w n := by
    intro n
    induction n with
    | zero => rfl
    | succ n ih =>
      unfold mLooks at ih ⊢
      rw [xit_last, xit_last, ih]
      have hz : xit (fun s (x : Nat → Int32) => if bt (x (139 + w)) s = true then mLook x s else x) n 0 a (139 + w) = N := (mLooks_fp (st := w) (n := n) (k := 139 + w) (by omega)).trans hN
      rw [hz]
  exact this w
end WR
/-! the rest of the lecture, written as long as it goes: the row behind it, and how many wipes took a step that is on no photo -/
def mGo (a : Nat → Int32) : Option Nat := if mWr a < mSt a then mNext a else none
def mRun : Nat → (Nat → Int32) → Int32 → (Nat → Int32) × Int32
  | 0, a, x => (a, x)
  | n + 1, a, x => match mGo a with
    | none => (a, x)
    | some p => mRun n (mWrite a p) (if p ≠ mUs a ∧ ¬ a (17 + p) &&& (mPh a ^^^ (-1)) = 0 then x + 1 else x)
theorem mRun_none {n : Nat} {a : Nat → Int32} {x : Int32} (h : mGo a = none) : mRun (n + 1) a x = (a, x) := by
  rw [mRun, h]
theorem mRun_some {n p : Nat} {a : Nat → Int32} {x : Int32} (h : mGo a = some p) : mRun (n + 1) a x = mRun n (mWrite a p) (if p ≠ mUs a ∧ ¬ a (17 + p) &&& (mPh a ^^^ (-1)) = 0 then x + 1 else x) := by
  rw [mRun, h]
theorem mGo_some {a : Nat → Int32} {p : Nat} (h : mGo a = some p) : mWr a < mSt a ∧ mNext a = some p := by
  unfold mGo at h
  by_cases c : mWr a < mSt a
  · rw [if_pos c] at h; exact ⟨c, h⟩
  · rw [if_neg c] at h; cases h
section WC
variable {σ : XSt} {b : Nat} {a : Nat → Int32} {p : Nat}
theorem RB_useP (h : RB σ b a) (hp : p < 6) (e : p ≠ mUs a) : RB (su (xclean b p σ) (b + 6) (upd (xclean b p σ (b + 6)) 4 (nI p))) b (mUse a p) := by
  unfold mUse
  rw [if_neg e]
  exact RB_lo (i := 6) (j := 4) (k := 3) rfl (RB_clean h hp) (by decide) (by decide)
theorem RB_bearP (h : RB σ b a) (hp : p < 6) (hw : mWr a < 30) : RB (su (xbear b p (mWr a) σ) (b + 1) (upd (xbear b p (mWr a) σ (b + 1)) 3 (xbear b p (mWr a) σ (b + 1) 3 + 1))) b (mBear a p) := by
  unfold mBear xbear
  have e1 := RB_lo (i := 8) (j := p) (k := 17 + p) (v := a (17 + p) ||| xbit (mWr a)) (if_pos hp) h (by omega) (by omega)
  have e2 := RB_lo (i := 1) (j := 3) (k := 2) (v := a 2 + 1) rfl e1 (by decide) (by decide)
  rw [su_near σ b _ (by decide)] at e2 ⊢
  rw [RB_on h hp, RB_written h]
  exact e2
theorem xfr_bearP {w : Nat} {f : Nat → Int32} : xfr σ (su (xbear b p w σ) (b + 1) f) b := xfr_tr (xfr_su σ (b := b) (i := 8) (upd (σ (b + 8)) p (σ (b + 8) p ||| xbit w)) (by decide)) (xfr_su _ f (by decide))
end WC
theorem m_X2_writeNext {l : Launch} {E : XEnv} {d b : Nat} {σ : XSt} {Q : Int32 → XSt → Prop} {a : Nat → Int32} {p : Nat} (hL : xLec E b) (hR : RB σ b a) (hI : xInv a) (hw : mWr a < mSt a) (hp : mNext a = some p)  (h : ∀ τ, RB τ b (mWrite a p) → xfr σ τ b → Q (nI p) τ) : XMi l E (d + 4) mX2_writeNext [.ref (xad E b)] σ Q := by
  obtain ⟨hx, hO, hN, hD, hW, hE, hA⟩ := id hI
  obtain ⟨ix1, ix2, ix3, ix4, iy1, iy2, iy3, iy4⟩ := id hx
  have hp6 := mNext_lt hp iy3
  have hu2 : mWr (mBring (mUse a p) p) = mWr a := (mBring_wr hp6).trans (mUse_wr hp6)
  have hv2 : mBring (mUse a p) p 2 = nI (mWr a) := by rw [mBring_fp hp6 (by decide), mUse_fp (by omega) (by omega) (by decide) (by decide)]; exact ix2
  have hi2 : xIx (mBear (mBring (mUse a p) p) p) := (xIx_mk (n := mSt a) (w := mWr a + 1) (u := p) (t := mTk a) (by rw [mBear_fp (by omega) (by decide), mBring_fp hp6 (by decide), mUse_fp (by omega) (by omega) (by decide) (by decide)]; exact ix1) (by rw [mBear_2, hv2, nI_1]) (by rw [mBear_fp (by omega) (by decide), mBring_fp hp6 (by decide), mUse_3 ix3]) (by rw [mBear_fp (by omega) (by decide), mBring_fp hp6 (by decide), mUse_fp (by omega) (by omega) (by decide) (by decide)]; exact ix4) hw iy2 hp6 iy4).1
  have hn2 : mBear (mBring (mUse a p) p) p (139 + mWr a) = a (139 + mWr a) := by rw [mBear_fp (by omega) (by omega), mBring_fp hp6 (by omega), mUse_fp (by omega) (by omega) (by omega) (by omega)]
  obtain ⟨s0, s1, s2, s3, s4, s5, s6, s7, s8, s9, s10, s11, s12, s13, s14, s15, s16, s17, s18, s19, s20⟩ := id hL
  refine xr_entry (lv := [some (.ref (xad E b)), none, none]) (by decide +kernel) (by simp [Value.category]) (Nat.le_of_ble_eq_true rfl) rfl (fun w hw cx cz => ?_)
  subst hw
  refine xr_aload_0 cx dX2_writeNext_0 ?_
  refine xr_V0i (ν := mX2_panelForNext) cx dX2_writeNext_1 rfl ml_X2_81 vf_X2_panelForNext s0 (Nat.le_of_ble_eq_true rfl) (m_X2_panelForNext hL hR hx hO ?_)
  rw [if_pos hw, hp]
  show XG _ _ _ _ [.int (nI p)] _
  refine xr_istore_1 cx dX2_writeNext_4 ?_
  refine xr_iload_1 cx dX2_writeNext_5 ?_
  refine xr_iconst (v := -1) cx dX2_writeNext_6 (by decide) ?_
  refine xr_icmp_ne (tgt := 12) cx dX2_writeNext_7 (by decide) (fun cq7 => ?_) (fun cq7 => ?_)
  · refine xr_iload_1 cx dX2_writeNext_12 ?_
    refine xr_aload_0 cx dX2_writeNext_13 ?_
    refine xr_getR cx dX2_writeNext_14 fl_X2_21 s0 rfl ?_
    refine xr_getI cx dX2_writeNext_17 fl_X2_71 s6 rfl ?_
    rw [RB_use hR, ix3]
    refine xr_icmp_eq (tgt := 39) cx dX2_writeNext_20 (by decide) (fun cq20 => ?_) (fun cq20 => ?_)
    · have hpu : p = mUs a := nI_inj (by omega) (by omega) cq20
      have hRu : RB σ b (mUse a p) := by unfold mUse; rw [if_pos hpu]; exact hR
      have hXu : xfr σ σ b := xfr_rf σ b
      refine xr_aload_0 cx dX2_writeNext_39 ?_
      refine xr_getR cx dX2_writeNext_40 fl_X2_21 s0 rfl ?_
      refine xr_iload_1 cx dX2_writeNext_43 ?_
      refine xr_V1v (ν := mX0_bringToFront) cx dX2_writeNext_44 rfl ml_X2_88 vf_X0_bringToFront s6 (Nat.le_of_ble_eq_true rfl) (m_X0_bringToFront hL hp6 ?_)
      have hRb := RB_bring hRu hp6
      have hXb := xfr_tr hXu (xfr_bring (p := p))
      refine xr_aload_0 cx dX2_writeNext_47 ?_
      refine xr_getR cx dX2_writeNext_48 fl_X2_12 s0 rfl ?_
      refine xr_getI cx dX2_writeNext_51 fl_X2_49 s1 rfl ?_
      rw [RB_written hRb, hv2]
      refine xr_istore_2 cx dX2_writeNext_54 ?_
      refine xr_aload_0 cx dX2_writeNext_55 ?_
      refine xr_getR cx dX2_writeNext_56 fl_X2_21 s0 rfl ?_
      refine xr_iload_1 cx dX2_writeNext_59 ?_
      refine xr_iload_2 cx dX2_writeNext_60 ?_
      refine xr_V2v (ν := mX0_bear) cx dX2_writeNext_61 rfl ml_X2_91 vf_X0_bear s6 (Nat.le_of_ble_eq_true rfl) (m_X0_bear hL hp6 (show mWr a < 30 by omega) ?_)
      refine xr_aload_0 cx dX2_writeNext_64 ?_
      refine xr_getR cx dX2_writeNext_65 fl_X2_12 s0 rfl ?_
      refine xr_dup cx dX2_writeNext_68 rfl ?_
      refine xr_getI cx dX2_writeNext_69 fl_X2_49 s1 rfl ?_
      refine xr_iconst (v := 1) cx dX2_writeNext_72 (by decide) ?_
      refine xr_iadd cx dX2_writeNext_73 ?_
      refine xr_putI cx dX2_writeNext_74 fp_X2_49 s1 rfl ?_
      have hRw := RB_bearP hRb hp6 (by omega)
      rw [hu2] at hRw
      refine xr_aload_0 cx dX2_writeNext_77 ?_
      refine xr_aload_0 cx dX2_writeNext_78 ?_
      refine xr_getR cx dX2_writeNext_79 fl_X2_12 s0 rfl ?_
      refine xr_getR cx dX2_writeNext_82 fl_X2_95 s1 rfl ?_
      refine xr_iload_2 cx dX2_writeNext_85 ?_
      refine xr_V1i (ν := mX5_at) cx dX2_writeNext_86 rfl ml_X2_43 vf_X5_at s4 (Nat.le_of_ble_eq_true rfl) (m_X5_at s4 s5 (by decide) ?_)
      rw [rowAt_in (by omega) (by decide), RB_needs hRw (by omega), hn2]
      refine xr_V1v (ν := mX2_lookAtNeeds) cx dX2_writeNext_89 rfl ml_X2_98 vf_X2_lookAtNeeds s0 (Nat.le_of_ble_eq_true rfl) (m_X2_lookAtNeeds hL hRw hi2 (fun τ r1 f1 => ?_))
      refine xr_iload_1 cx dX2_writeNext_92 ?_
      refine xr_iret cx cz dX2_writeNext_93 rfl ?_
      exact h _ (by unfold mWrite; rw [← looks_eq hn2 (by omega) (hN (mWr a) hw)]; exact r1) (xfr_tr hXb (xfr_tr xfr_bearP f1))
    · have hpu : p ≠ mUs a := fun q => cq20 (by rw [q])
      have hRu := RB_useP hR hp6 hpu
      have hXu : xfr σ (su (xclean b p σ) (b + 6) (upd (xclean b p σ (b + 6)) 4 (nI p))) b := xfr_tr xfr_clean (xfr_su _ _ (by decide))
      refine xr_aload_0 cx dX2_writeNext_23 ?_
      refine xr_getR cx dX2_writeNext_24 fl_X2_21 s0 rfl ?_
      refine xr_iload_1 cx dX2_writeNext_27 ?_
      refine xr_V1v (ν := mX0_clean) cx dX2_writeNext_28 rfl ml_X2_84 vf_X0_clean s6 (Nat.le_of_ble_eq_true rfl) (m_X0_clean hL hp6 ?_)
      refine xr_aload_0 cx dX2_writeNext_31 ?_
      refine xr_getR cx dX2_writeNext_32 fl_X2_21 s0 rfl ?_
      refine xr_iload_1 cx dX2_writeNext_35 ?_
      refine xr_putI cx dX2_writeNext_36 fp_X2_71 s6 rfl ?_
      refine xr_aload_0 cx dX2_writeNext_39 ?_
      refine xr_getR cx dX2_writeNext_40 fl_X2_21 s0 rfl ?_
      refine xr_iload_1 cx dX2_writeNext_43 ?_
      refine xr_V1v (ν := mX0_bringToFront) cx dX2_writeNext_44 rfl ml_X2_88 vf_X0_bringToFront s6 (Nat.le_of_ble_eq_true rfl) (m_X0_bringToFront hL hp6 ?_)
      have hRb := RB_bring hRu hp6
      have hXb := xfr_tr hXu (xfr_bring (p := p))
      refine xr_aload_0 cx dX2_writeNext_47 ?_
      refine xr_getR cx dX2_writeNext_48 fl_X2_12 s0 rfl ?_
      refine xr_getI cx dX2_writeNext_51 fl_X2_49 s1 rfl ?_
      rw [RB_written hRb, hv2]
      refine xr_istore_2 cx dX2_writeNext_54 ?_
      refine xr_aload_0 cx dX2_writeNext_55 ?_
      refine xr_getR cx dX2_writeNext_56 fl_X2_21 s0 rfl ?_
      refine xr_iload_1 cx dX2_writeNext_59 ?_
      refine xr_iload_2 cx dX2_writeNext_60 ?_
      refine xr_V2v (ν := mX0_bear) cx dX2_writeNext_61 rfl ml_X2_91 vf_X0_bear s6 (Nat.le_of_ble_eq_true rfl) (m_X0_bear hL hp6 (show mWr a < 30 by omega) ?_)
      refine xr_aload_0 cx dX2_writeNext_64 ?_
      refine xr_getR cx dX2_writeNext_65 fl_X2_12 s0 rfl ?_
      refine xr_dup cx dX2_writeNext_68 rfl ?_
      refine xr_getI cx dX2_writeNext_69 fl_X2_49 s1 rfl ?_
      refine xr_iconst (v := 1) cx dX2_writeNext_72 (by decide) ?_
      refine xr_iadd cx dX2_writeNext_73 ?_
      refine xr_putI cx dX2_writeNext_74 fp_X2_49 s1 rfl ?_
      have hRw := RB_bearP hRb hp6 (by omega)
      rw [hu2] at hRw
      refine xr_aload_0 cx dX2_writeNext_77 ?_
      refine xr_aload_0 cx dX2_writeNext_78 ?_
      refine xr_getR cx dX2_writeNext_79 fl_X2_12 s0 rfl ?_
      refine xr_getR cx dX2_writeNext_82 fl_X2_95 s1 rfl ?_
      refine xr_iload_2 cx dX2_writeNext_85 ?_
      refine xr_V1i (ν := mX5_at) cx dX2_writeNext_86 rfl ml_X2_43 vf_X5_at s4 (Nat.le_of_ble_eq_true rfl) (m_X5_at s4 s5 (by decide) ?_)
      rw [rowAt_in (by omega) (by decide), RB_needs hRw (by omega), hn2]
      refine xr_V1v (ν := mX2_lookAtNeeds) cx dX2_writeNext_89 rfl ml_X2_98 vf_X2_lookAtNeeds s0 (Nat.le_of_ble_eq_true rfl) (m_X2_lookAtNeeds hL hRw hi2 (fun τ r1 f1 => ?_))
      refine xr_iload_1 cx dX2_writeNext_92 ?_
      refine xr_iret cx cz dX2_writeNext_93 rfl ?_
      exact h _ (by unfold mWrite; rw [← looks_eq hn2 (by omega) (hN (mWr a) hw)]; exact r1) (xfr_tr hXb (xfr_tr xfr_bearP f1))
  · exact absurd cq7 (nI_nm1 (by omega))
theorem lp_X2_writeAll {E : XEnv} {d b : Nat} {Q : Int32 → XSt → Prop} {w : XO} (hL : xLec E b) (cx : CX (d + 5) w E mX2_writeAll) (cz : CZi w E Q) : ∀ n i (x : Int32) (x3 : Option Value) {σ : XSt} {a : Nat → Int32}, i + n = 30 → RB σ b a → xInv a → (∀ τ, RB τ b (mRun n a x).1 → xfr σ τ b → Q (mRun n a x).2 τ) → XG w E 4 [some (.ref (xad E b)), some (.int x), some (.int (nI i)), x3] [] σ := by
  obtain ⟨s0, s1, s2, s3, s4, s5, s6, s7, s8, s9, s10, s11, s12, s13, s14, s15, s16, s17, s18, s19, s20⟩ := id hL
  intro n
  induction n with
  | zero =>
    intro i x x3 σ a hi hR hI h
    obtain rfl : i = 30 := by omega
    refine xr_iload_2 cx dX2_writeAll_4 ?_
    refine xr_bipush (v := 30) cx dX2_writeAll_5 (by decide) ?_
    refine xr_icmp_ge (tgt := 72) cx dX2_writeAll_7 (by decide) (fun cq7 => ?_) (fun cq7 => ?_)
    · refine xr_iload_1 cx dX2_writeAll_72 ?_
      refine xr_iret cx cz dX2_writeAll_73 rfl ?_
      exact h σ hR (xfr_rf σ b)
    · exact absurd (nI_le (a := 30) (b := 30) (by decide) (by decide)) cq7
  | succ n ih =>
    intro i x x3 σ a hi hR hI h
    obtain ⟨hx, hO, -⟩ := id hI
    cases hc : mGo a with
    | none =>
      rw [mRun_none hc] at h
      refine xr_iload_2 cx dX2_writeAll_4 ?_
      refine xr_bipush (v := 30) cx dX2_writeAll_5 (by decide) ?_
      refine xr_icmp_ge (tgt := 72) cx dX2_writeAll_7 (by decide) (fun cq7 => ?_) (fun cq7 => ?_)
      · exact absurd cq7 (nI_ge (a := i) (b := 30) (by omega) (by decide))
      · refine xr_aload_0 cx dX2_writeAll_10 ?_
        refine xr_V0i (ν := mX2_panelForNext) cx dX2_writeAll_11 rfl ml_X2_81 vf_X2_panelForNext s0 (Nat.le_of_ble_eq_true rfl) (m_X2_panelForNext hL hR hx hO ?_)
        rw [show (if mWr a < mSt a then mNext a else none) = none from hc]
        show XG _ _ _ _ [.int (-1)] _
        refine xr_istore_3 cx dX2_writeAll_14 ?_
        refine xr_iload_3 cx dX2_writeAll_15 ?_
        refine xr_iconst (v := -1) cx dX2_writeAll_16 (by decide) ?_
        refine xr_icmp_ne (tgt := 23) cx dX2_writeAll_17 (by decide) (fun cq17 => ?_) (fun cq17 => ?_)
        · exact absurd rfl cq17
        · refine xr_goto (tgt := 72) cx dX2_writeAll_20 (by decide) ?_
          refine xr_iload_1 cx dX2_writeAll_72 ?_
          refine xr_iret cx cz dX2_writeAll_73 rfl ?_
          exact h σ hR (xfr_rf σ b)
    | some p =>
      rw [mRun_some hc] at h
      obtain ⟨hw, hp⟩ := mGo_some hc
      have hu6 := hx.2.2.2.2.2.2.1
      have hp6 := mNext_lt hp hu6
      refine xr_iload_2 cx dX2_writeAll_4 ?_
      refine xr_bipush (v := 30) cx dX2_writeAll_5 (by decide) ?_
      refine xr_icmp_ge (tgt := 72) cx dX2_writeAll_7 (by decide) (fun cq7 => ?_) (fun cq7 => ?_)
      · exact absurd cq7 (nI_ge (a := i) (b := 30) (by omega) (by decide))
      · refine xr_aload_0 cx dX2_writeAll_10 ?_
        refine xr_V0i (ν := mX2_panelForNext) cx dX2_writeAll_11 rfl ml_X2_81 vf_X2_panelForNext s0 (Nat.le_of_ble_eq_true rfl) (m_X2_panelForNext hL hR hx hO ?_)
        rw [show (if mWr a < mSt a then mNext a else none) = some p from hc]
        show XG _ _ _ _ [.int (nI p)] _
        refine xr_istore_3 cx dX2_writeAll_14 ?_
        refine xr_iload_3 cx dX2_writeAll_15 ?_
        refine xr_iconst (v := -1) cx dX2_writeAll_16 (by decide) ?_
        refine xr_icmp_ne (tgt := 23) cx dX2_writeAll_17 (by decide) (fun cq17 => ?_) (fun cq17 => ?_)
        · refine xr_iload_3 cx dX2_writeAll_23 ?_
          refine xr_aload_0 cx dX2_writeAll_24 ?_
          refine xr_getR cx dX2_writeAll_25 fl_X2_21 s0 rfl ?_
          refine xr_getI cx dX2_writeAll_28 fl_X2_71 s6 rfl ?_
          rw [RB_use hR, hx.2.2.1]
          refine xr_icmp_eq (tgt := 61) cx dX2_writeAll_31 (by decide) (fun cq31 => ?_) (fun cq31 => ?_)
          · have hpu : p = mUs a := nI_inj (by omega) (by omega) cq31
            rw [if_neg (fun z => z.1 hpu)] at h
            refine xr_aload_0 cx dX2_writeAll_61 ?_
            refine xr_V0i (ν := mX2_writeNext) cx dX2_writeAll_62 rfl ml_X2_132 vf_X2_writeNext s0 (Nat.le_of_ble_eq_true rfl) (m_X2_writeNext hL hR hI hw hp (fun τ r1 f1 => ?_))
            refine xr_pop cx dX2_writeAll_65 rfl ?_
            refine xr_iinc_2 (y := 1) cx dX2_writeAll_66 (by decide) ?_
            refine xr_goto (tgt := 4) cx dX2_writeAll_69 (by decide) ?_
            rw [nI_1]
            exact ih (i + 1) _ _ (by omega) r1 (mWrite_inv hI hp6 hw) (fun ρ q1 q2 => h ρ q1 (xfr_tr f1 q2))
          · have hpu : p ≠ mUs a := fun q => cq31 (by rw [q])
            refine xr_aload_0 cx dX2_writeAll_34 ?_
            refine xr_getR cx dX2_writeAll_35 fl_X2_21 s0 rfl ?_
            refine xr_getR cx dX2_writeAll_38 fl_X2_39 s6 rfl ?_
            refine xr_iload_3 cx dX2_writeAll_41 ?_
            refine xr_V1i (ν := mX5_at) cx dX2_writeAll_42 rfl ml_X2_43 vf_X5_at s7 (Nat.le_of_ble_eq_true rfl) (m_X5_at s7 s8 (by decide) ?_)
            rw [rowAt_in (by omega) (by decide), RB_on hR hp6]
            refine xr_aload_0 cx dX2_writeAll_45 ?_
            refine xr_getR cx dX2_writeAll_46 fl_X2_28 s0 rfl ?_
            refine xr_getI cx dX2_writeAll_49 fl_X2_129 s13 rfl ?_
            rw [hR.2]
            refine xr_iconst (v := -1) cx dX2_writeAll_52 (by decide) ?_
            refine xr_ixor cx dX2_writeAll_53 ?_
            refine xr_iand cx dX2_writeAll_54 ?_
            refine xr_if_eq (tgt := 61) cx dX2_writeAll_55 (by decide) (fun cq55 => ?_) (fun cq55 => ?_)
            · rw [if_neg (fun z => z.2 cq55)] at h
              refine xr_aload_0 cx dX2_writeAll_61 ?_
              refine xr_V0i (ν := mX2_writeNext) cx dX2_writeAll_62 rfl ml_X2_132 vf_X2_writeNext s0 (Nat.le_of_ble_eq_true rfl) (m_X2_writeNext hL hR hI hw hp (fun τ r1 f1 => ?_))
              refine xr_pop cx dX2_writeAll_65 rfl ?_
              refine xr_iinc_2 (y := 1) cx dX2_writeAll_66 (by decide) ?_
              refine xr_goto (tgt := 4) cx dX2_writeAll_69 (by decide) ?_
              rw [nI_1]
              exact ih (i + 1) _ _ (by omega) r1 (mWrite_inv hI hp6 hw) (fun ρ q1 q2 => h ρ q1 (xfr_tr f1 q2))
            · rw [if_pos ⟨hpu, cq55⟩] at h
              refine xr_iinc_1 (y := 1) cx dX2_writeAll_58 (by decide) ?_
              refine xr_aload_0 cx dX2_writeAll_61 ?_
              refine xr_V0i (ν := mX2_writeNext) cx dX2_writeAll_62 rfl ml_X2_132 vf_X2_writeNext s0 (Nat.le_of_ble_eq_true rfl) (m_X2_writeNext hL hR hI hw hp (fun τ r1 f1 => ?_))
              refine xr_pop cx dX2_writeAll_65 rfl ?_
              refine xr_iinc_2 (y := 1) cx dX2_writeAll_66 (by decide) ?_
              refine xr_goto (tgt := 4) cx dX2_writeAll_69 (by decide) ?_
              rw [nI_1]
              exact ih (i + 1) _ _ (by omega) r1 (mWrite_inv hI hp6 hw) (fun ρ q1 q2 => h ρ q1 (xfr_tr f1 q2))
        · exact absurd cq17 (nI_nm1 (by omega))
theorem m_X2_writeAll {l : Launch} {E : XEnv} {d b : Nat} {σ : XSt} {Q : Int32 → XSt → Prop} {a : Nat → Int32} (hL : xLec E b) (hR : RB σ b a) (hI : xInv a)  (h : ∀ τ, RB τ b (mRun 30 a 0).1 → xfr σ τ b → Q (mRun 30 a 0).2 τ) : XMi l E (d + 5) mX2_writeAll [.ref (xad E b)] σ Q := by
  obtain ⟨s0, s1, s2, s3, s4, s5, s6, s7, s8, s9, s10, s11, s12, s13, s14, s15, s16, s17, s18, s19, s20⟩ := id hL
  refine xr_entry (lv := [some (.ref (xad E b)), none, none, none]) (by decide +kernel) (by simp [Value.category]) (Nat.le_of_ble_eq_true rfl) rfl (fun w hw cx cz => ?_)
  subst hw
  refine xr_iconst (v := 0) cx dX2_writeAll_0 (by decide) ?_
  refine xr_istore_1 cx dX2_writeAll_1 ?_
  refine xr_iconst (v := 0) cx dX2_writeAll_2 (by decide) ?_
  refine xr_istore_2 cx dX2_writeAll_3 ?_
  exact lp_X2_writeAll hL cx cz 30 0 0 none rfl hR hI h
