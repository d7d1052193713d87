/-! asking and writing -/
section ZW
variable {a : Nat → Int32}
theorem zInv_ask {s : Nat} (h : zInv a) (hI : xInv a) (hs : s < 30) : zInv (mAsk a s).2 := by
  have hx := hI.1
  have e0 : ∀ j, j ≠ 169 + s → upd a (169 + s) (a (169 + s) + 1) j = a j := fun j hj => upd_ne a _ hj
  cases hp : mPan a s with
  | none =>
    rw [mAsk_none hp]
    split
    · show zInv (upd (upd a (169 + s) (a (169 + s) + 1)) 15 (upd a (169 + s) (a (169 + s) + 1) 15 + 1))
      exact zInv_ask0 (i := 15) h hx hs (by omega) (by rw [upd_ne _ _ (by omega), upd_same]) (by rw [upd_same, e0 _ (by omega)]) (zFr_e h.2.1 (fun j hj => by rw [upd_ne _ _ (by omega), e0 _ (by omega)])) (fun k h1 h2 h3 h4 => by rw [upd_ne _ _ h2, e0 _ h1])
    · show zInv (upd (upd a (169 + s) (a (169 + s) + 1)) 16 (upd a (169 + s) (a (169 + s) + 1) 16 + 1))
      exact zInv_ask0 (i := 16) h hx hs (by omega) (by rw [upd_ne _ _ (by omega), upd_same]) (by rw [upd_same, e0 _ (by omega)]) (zFr_e h.2.1 (fun j hj => by rw [upd_ne _ _ (by omega), e0 _ (by omega)])) (fun k h1 h2 h3 h4 => by rw [upd_ne _ _ h2, e0 _ h1])
  | some p =>
    rw [mAsk_some hp]
    have hp6 := mPan_lt hp
    have hf0 : zFr (upd a (169 + s) (a (169 + s) + 1)) := zFr_e h.2.1 (fun j hj => e0 _ (by omega))
    have hf1 := zFr_bring hf0 hp6
    show zInv (upd (mBring (upd a (169 + s) (a (169 + s) + 1)) p) 14 (mBring (upd a (169 + s) (a (169 + s) + 1)) p 14 + 1))
    exact zInv_ask0 (i := 14) h hx hs (by omega) (by rw [upd_ne _ _ (by omega), mBring_ne hp6 (by omega) (by omega), upd_same]) (by rw [upd_same, mBring_ne hp6 (by omega) (by omega), e0 _ (by omega)]) (zFr_e hf1 (fun j hj => by rw [upd_ne _ _ (by omega)])) (fun k h1 h2 h3 h4 => by rw [upd_ne _ _ h2, mBring_ne hp6 h3 h4, e0 _ h1])
/-- looking at one step: one more is hidden, on a photo alone, lost, or there is one more pull, or nothing -/
theorem zl_look {s : Nat} (hf : zFr a) (hu : mUs a < 6) : ∃ h l o d, mLook a s 11 = a 11 + nI h ∧ mLook a s 12 = a 12 + nI l ∧ mLook a s 13 = a 13 + nI o ∧ mLook a s 8 = a 8 + nI d ∧ h + l + o + d ≤ 1 ∧ zFr (mLook a s) ∧ mLook a s (4 + mUs a / 2) = a (4 + mUs a / 2) := by
  have hb : ∀ j, j < 199 → upd a (199 + s) (a (199 + s) + 1) j = a j := fun j hj => upd_ne a _ (by omega)
  have z0 : ∀ x : Int32, x + nI 0 = x := fun x => Int32.add_zero x
  cases hp : mPan a s with
  | none =>
    rw [mLook_none hp]
    generalize upd a (199 + s) (a (199 + s) + 1) = b at hb ⊢
    split
    · refine ⟨0, 1, 0, 0, ?_, ?_, ?_, ?_, by omega, zFr_e hf (fun j hj => by rw [upd_ne _ _ (by omega), hb _ (by omega)]), ?_⟩
      · rw [upd_ne _ _ (by omega), hb _ (by omega), z0]
      · rw [upd_same, hb _ (by omega)]; rfl
      · rw [upd_ne _ _ (by omega), hb _ (by omega), z0]
      · rw [upd_ne _ _ (by omega), hb _ (by omega), z0]
      · rw [upd_ne _ _ (by omega), hb _ (by omega)]
    · refine ⟨0, 0, 1, 0, ?_, ?_, ?_, ?_, by omega, zFr_e hf (fun j hj => by rw [upd_ne _ _ (by omega), hb _ (by omega)]), ?_⟩
      · rw [upd_ne _ _ (by omega), hb _ (by omega), z0]
      · rw [upd_ne _ _ (by omega), hb _ (by omega), z0]
      · rw [upd_same, hb _ (by omega)]; rfl
      · rw [upd_ne _ _ (by omega), hb _ (by omega), z0]
      · rw [upd_ne _ _ (by omega), hb _ (by omega)]
  | some p =>
    rw [mLook_some hp]
    have hp6 := mPan_lt hp
    generalize upd a (199 + s) (a (199 + s) + 1) = b at hb ⊢
    split
    · refine ⟨0, 0, 0, 0, ?_, ?_, ?_, ?_, by omega, zFr_e hf (fun j hj => hb _ (by omega)), hb _ (by omega)⟩
      · rw [hb _ (by omega), z0]
      · rw [hb _ (by omega), z0]
      · rw [hb _ (by omega), z0]
      · rw [hb _ (by omega), z0]
    · split
      · refine ⟨1, 0, 0, 0, ?_, ?_, ?_, ?_, by omega, zFr_e hf (fun j hj => by rw [upd_ne _ _ (by omega), hb _ (by omega)]), ?_⟩
        · rw [upd_same, hb _ (by omega)]; rfl
        · rw [upd_ne _ _ (by omega), hb _ (by omega), z0]
        · rw [upd_ne _ _ (by omega), hb _ (by omega), z0]
        · rw [upd_ne _ _ (by omega), hb _ (by omega), z0]
        · rw [upd_ne _ _ (by omega), hb _ (by omega)]
      · rename_i hne
        have hc : p / 2 < 3 := by omega
        refine ⟨0, 0, 0, 1, ?_, ?_, ?_, ?_, by omega, zFr_pull (zFr_e hf (fun j hj => hb _ (by omega))) hc, ?_⟩
        · rw [mPull_ne hc (by omega) (by omega), hb _ (by omega), z0]
        · rw [mPull_ne hc (by omega) (by omega), hb _ (by omega), z0]
        · rw [mPull_ne hc (by omega) (by omega), hb _ (by omega), z0]
        · unfold mPull
          rw [upd_same, hb _ (by omega)]; rfl
        · unfold mPull
          rw [upd_ne _ _ (by omega), upd_ne _ _ (by omega), hb _ (by omega)]
theorem mLooks_s {st n : Nat} (hst : st < 60) : mLooks a st (n + 1) = if bt (a (139 + st)) n = true then mLook (mLooks a st n) n else mLooks a st n := by
  have hN : mLooks a st n (139 + st) = a (139 + st) := mLooks_fp (by omega)
  have e : mLooks a st (n + 1) = if bt (mLooks a st n (139 + st)) n = true then mLook (mLooks a st n) n else mLooks a st n := xit_s (fun s (x : Nat → Int32) => if bt (x (139 + st)) s = true then mLook x s else x) n a
  rw [e, hN]
theorem zls {st : Nat} (hst : st < 60) (hf : zFr a) (hu : mUs a < 6) : ∀ n, zFr (mLooks a st n) ∧ mLooks a st n (4 + mUs a / 2) = a (4 + mUs a / 2) ∧ ∃ h l o d, mLooks a st n 11 = a 11 + nI h ∧ mLooks a st n 12 = a 12 + nI l ∧ mLooks a st n 13 = a 13 + nI o ∧ mLooks a st n 8 = a 8 + nI d ∧ h + l + o + d ≤ zc (bt (a (139 + st))) n
  | 0 => ⟨hf, rfl, 0, 0, 0, 0, (Int32.add_zero _).symm, (Int32.add_zero _).symm, (Int32.add_zero _).symm, (Int32.add_zero _).symm, Nat.le_refl _⟩
  | n + 1 => by
    obtain ⟨i1, i2, h, l, o, d, i3, i4, i5, i6, i7⟩ := zls hst hf hu n
    rw [mLooks_s hst, zc]
    by_cases hb : bt (a (139 + st)) n = true
    · rw [if_pos hb, if_pos hb]
      have eu : mUs (mLooks a st n) = mUs a := mUs_e (mLooks_fp (by omega))
      obtain ⟨h2, l2, o2, d2, j1, j2, j3, j4, j5, j6, j7⟩ := zl_look (a := mLooks a st n) (s := n) i1 (by rw [eu]; exact hu)
      rw [eu] at j7
      refine ⟨j6, j7.trans i2, h + h2, l + l2, o + o2, d + d2, ?_, ?_, ?_, ?_, by omega⟩
      · rw [j1, i3, ← nI_add]; ac_rfl
      · rw [j2, i4, ← nI_add]; ac_rfl
      · rw [j3, i5, ← nI_add]; ac_rfl
      · rw [j4, i6, ← nI_add]; ac_rfl
    · rw [if_neg hb, if_neg hb]
      exact ⟨i1, i2, h, l, o, d, i3, i4, i5, i6, by omega⟩
theorem mRot_ne {u q : Nat} (hu : u < 6) (h : mRot a u = some q) : q ≠ u := by
  unfold mRot at h
  cases hx : xfst (fun k => !mPin a ((u + k) % 6)) 5 1 with
  | none => rw [hx] at h; cases h
  | some k =>
    rw [hx] at h
    cases h
    have := xfst_some hx
    show (u + k) % 6 ≠ u
    omega
theorem zc_mono (f : Nat → Bool) (m : Nat) : ∀ n, zc f m ≤ zc f (m + n)
  | 0 => Nat.le_refl _
  | n + 1 => by
    have := zc_mono f m n
    rw [show m + (n + 1) = (m + n) + 1 by omega, zc]
    omega
/-- where the next step comes -/
theorem mGo_at {p : Nat} (hx : xIx a) (hg : mGo a = some p) : p < 6 ∧ mWr a < mSt a ∧ (p = mUs a → mLines a p + a (109 + mWr a) ≤ a 0) ∧ (p ≠ mUs a → mPin a p = false) := by
  obtain ⟨b1, b2, b3, b4⟩ := xIx_b hx
  obtain ⟨g1, g2⟩ := mGo_some hg
  refine ⟨mNext_lt g2 b3, g1, ?_, ?_⟩
  · rintro rfl
    unfold mNext at g2
    by_cases c : mLines a (mUs a) + a (109 + mWr a) ≤ a 0
    · exact c
    · rw [if_neg c] at g2
      exact absurd rfl (mRot_ne b3 g2)
  · intro hp
    unfold mNext at g2
    by_cases c : mLines a (mUs a) + a (109 + mWr a) ≤ a 0
    · rw [if_pos c] at g2
      exact absurd (Option.some.inj g2).symm hp
    · rw [if_neg c] at g2
      exact (mRot_lt g2).2
theorem zw_mid {p : Nat} (h : zInv a) (hx : xIx a) (hp : p < 6) : ∃ b, mWrite a p = mLooks b (mWr a) (mWr a) ∧ zFr b ∧ mUs b = p ∧ b (4 + p / 2) = nI p ∧ b 11 = a 11 ∧ b 12 = a 12 ∧ b 13 = a 13 ∧ b (139 + mWr a) = a (139 + mWr a) ∧ ∃ e, e ≤ 1 ∧ b 8 = a 8 + nI e := by
  have hfu : zFr (mUse a p) := zFr_e h.2.1 (fun j hj => mUse_fp (by omega) (by omega) (by omega) (by omega))
  have hfb : zFr (mBring (mUse a p) p) := zFr_bring hfu hp
  refine ⟨mBear (mBring (mUse a p) p) p, rfl, zFr_e hfb (fun j hj => mBear_fp (by omega) (by omega)), ?_, ?_, ?_, ?_, ?_, ?_, ?_⟩
  · exact cl_nI (by rw [mBear_fp (by omega) (by omega), mBring_fp hp (by omega)]; exact mUse_3 hx.2.2.1) (by omega)
  · rw [mBear_fp (by omega) (by omega)]
    exact mBring_at hfu hp
  · rw [mBear_fp (by omega) (by omega), mBring_fp hp (by omega), mUse_fp (by omega) (by omega) (by omega) (by omega)]
  · rw [mBear_fp (by omega) (by omega), mBring_fp hp (by omega), mUse_fp (by omega) (by omega) (by omega) (by omega)]
  · rw [mBear_fp (by omega) (by omega), mBring_fp hp (by omega), mUse_fp (by omega) (by omega) (by omega) (by omega)]
  · rw [mBear_fp (by omega) (by omega), mBring_fp hp (by omega), mUse_fp (by omega) (by omega) (by omega) (by omega)]
  · rw [mBear_fp (by omega) (by omega), mBring_8, mUse_fp (by omega) (by omega) (by omega) (by omega)]
    split
    · exact ⟨0, by omega, rfl⟩
    · exact ⟨1, by omega, rfl⟩
/-- one step is written: a panel in front, and what it counts -/
theorem zw {p : Nat} (h : zInv a) (hI : xInv a) (hg : mGo a = some p) : zFr (mWrite a p) ∧ mWrite a p (4 + p / 2) = nI p ∧ ∃ h l o d, mWrite a p 11 = a 11 + nI h ∧ mWrite a p 12 = a 12 + nI l ∧ mWrite a p 13 = a 13 + nI o ∧ mWrite a p 8 = a 8 + nI d ∧ h + l + o + d ≤ zc (bt (a (139 + mWr a))) 30 + 1 ∧ h + l + o ≤ zc (bt (a (139 + mWr a))) 30 := by
  obtain ⟨b1, b2, b3, b4⟩ := xIx_b hI.1
  obtain ⟨g1, g2, g3, g4⟩ := mGo_at hI.1 hg
  obtain ⟨b, e, m1, m2, m3, m4, m5, m6, m7, k, hk, m8⟩ := zw_mid h hI.1 g1
  obtain ⟨q1, q2, x1, x2, x3, x4, q3, q4, q5, q6, q7⟩ := zls (st := mWr a) (by omega) m1 (by rw [m2]; exact g1) (mWr a)
  rw [m7] at q7
  rw [m2] at q2
  have hm := zc_mono (bt (a (139 + mWr a))) (mWr a) (30 - mWr a)
  rw [show mWr a + (30 - mWr a) = 30 by omega] at hm
  rw [e]
  refine ⟨q1, q2.trans m3, x1, x2, x3, k + x4, by rw [q3, m4], by rw [q4, m5], by rw [q5, m6], ?_, by omega, by omega⟩
  rw [q6, m8, ← nI_add]
  ac_rfl
theorem mLines_write {p q : Nat} (hI : xInv a) (hg : mGo a = some p) (hq : q < 6) : mLines (mWrite a p) q = if q = p then (if p = mUs a then mLines a p else 0) + a (109 + mWr a) else mLines a q := by
  obtain ⟨b1, b2, b3, b4⟩ := xIx_b hI.1
  obtain ⟨g1, g2, g3, g4⟩ := mGo_at hI.1 hg
  by_cases e : q = p
  · subst e
    rw [if_pos rfl]
    have hs : mSt (mWrite a q) = mSt a := mSt_e (mWrite_fp hq (by omega))
    unfold mLines
    rw [hs]
    have hon : ∀ k, k < 32 → bt (mWrite a q (17 + q)) k = (bt (if q ≠ mUs a then 0 else a (17 + q)) k || decide (k = mWr a)) := fun k hk => by
      rw [mWrite_on hq hq, if_pos rfl, b_or, bt_xbit (by omega) hk]
    have hw0 : bt (if q ≠ mUs a then 0 else a (17 + q)) (mWr a) = false := by
      split
      · exact b_0 _
      · exact hI.2.1 q hq _ (Nat.le_refl _) (by omega)
    have hX1 : q = mUs a → (if q ≠ mUs a then (0 : Int32) else a (17 + q)) = a (17 + q) := fun z => if_neg (fun y => y z)
    have hX2 : q ≠ mUs a → (if q ≠ mUs a then (0 : Int32) else a (17 + q)) = 0 := fun z => if_pos z
    generalize (if q ≠ mUs a then (0 : Int32) else a (17 + q)) = X at hon hw0 hX1 hX2
    have hw32 : mWr a < 32 := by omega
    have := xi_at (f := fun k => if k < 32 ∧ bt X k = true then a (109 + k) else 0) (g := fun k => if k < 32 ∧ bt (mWrite a q (17 + q)) k = true then a (109 + k) else 0) (s := mWr a) (d := a (109 + mWr a)) (by
      show (if mWr a < 32 ∧ bt (mWrite a q (17 + q)) (mWr a) = true then a (109 + mWr a) else 0) = (if mWr a < 32 ∧ bt X (mWr a) = true then a (109 + mWr a) else 0) + a (109 + mWr a)
      rw [hon _ hw32, hw0]
      simp [hw32]) (fun k hk => by
      show (if k < 32 ∧ bt (mWrite a q (17 + q)) k = true then a (109 + k) else 0) = (if k < 32 ∧ bt X k = true then a (109 + k) else 0)
      by_cases hk32 : k < 32
      · rw [hon k hk32, decide_eq_false hk, Bool.or_false]
      · rw [if_neg (fun z => hk32 z.1), if_neg (fun z => hk32 z.1)]) (mSt a) g2
    rw [xit_cong (g := fun k (acc : Int32) => acc + (if k < 32 ∧ bt (mWrite a q (17 + q)) k = true then a (109 + k) else 0)) (mSt a) 0 0 (fun k y h1 h2 => by
      rw [mWrite_fp hq (k := 109 + k) (by omega)]
      congr 1
      by_cases hb : bt (mWrite a q (17 + q)) k = true
      · rw [if_pos hb, if_pos ⟨by omega, hb⟩]
      · rw [if_neg hb, if_neg (fun z => hb z.2)])]
    rw [this]
    congr 1
    by_cases e2 : q = mUs a
    · rw [if_pos e2, hX1 e2]
      exact xit_cong _ _ _ (fun k y h1 h2 => by
        congr 1
        by_cases hb : bt (a (17 + q)) k = true
        · rw [if_pos hb, if_pos ⟨by omega, hb⟩]
        · rw [if_neg hb, if_neg (fun z => hb z.2)])
    · rw [if_neg e2, hX2 e2]
      exact xit_id _ _ _ (fun k y h1 h2 => by
        rw [b_0, if_neg (by simp), Int32.add_zero])
  · rw [if_neg e]
    exact mLines_e b2 (mWrite_fp g1 (by omega)) (by rw [mWrite_on g1 hq, if_neg e]) (fun k hk => mWrite_fp g1 (by omega))
theorem zNeed_write {p : Nat} (hI : xInv a) (hg : mGo a = some p) : zNeed (mWrite a p) = zNeed a + zc (bt (a (139 + mWr a))) 30 := by
  obtain ⟨b1, b2, b3, b4⟩ := xIx_b hI.1
  obtain ⟨g1, g2, g3, g4⟩ := mGo_at hI.1 hg
  obtain ⟨jx, e1, e2, e3, e4⟩ := mWrite_ix hI.1 g1 g2
  unfold zNeed
  rw [e2, zs, zs_cong (g := fun k => zc (bt (a (139 + k))) 30) (mWr a) (fun k hk => by rw [mWrite_fp g1 (by omega)]), mWrite_fp g1 (by omega)]
theorem zInv_write {p : Nat} (h : zInv a) (hI : xInv a) (hg : mGo a = some p) : zInv (mWrite a p) := by
  obtain ⟨b1, b2, b3, b4⟩ := xIx_b hI.1
  obtain ⟨g1, g2, g3, g4⟩ := mGo_at hI.1 hg
  obtain ⟨w1, w2, x1, x2, x3, x4, w3, w4, w5, w6, w7, w8⟩ := zw h hI hg
  obtain ⟨jx, e1, e2, e3, e4⟩ := mWrite_ix hI.1 g1 g2
  obtain ⟨z1, z2, z3, z4, z5, z6, z7⟩ := id h
  have e0 : mWrite a p 0 = a 0 := mWrite_fp g1 (by omega)
  have e14 : ∀ k, (14 ≤ k ∧ k < 17) → mWrite a p k = a k := fun k hk => by
    unfold mWrite
    rw [mLooks_fp (by omega), mBear_fp (by omega) (by omega), mBring_fp g1 (by omega), mUse_fp (by omega) (by omega) (by omega) (by omega)]
  refine ⟨?_, w1, fun q hq => ?_, zSz_e z4 b2 (mWrite_fp g1 (by omega)) (fun k hk => mWrite_fp g1 (by omega)), ?_, zAk_e z6 (e14 _ (by omega)) (e14 _ (by omega)) (e14 _ (by omega)) (fun k hk => mWrite_fp g1 (by omega)), zPt_e z7 b4 (mWrite_fp g1 (by omega)) (by omega) (fun k h1 h2 => mWrite_fp g1 (by omega))⟩
  · show ∃ r, 4 ≤ r ∧ r ≤ 20 ∧ mWrite a p 0 = nI r
    rw [e0]
    exact z1
  · rw [mLines_write hI hg hq, e0]
    by_cases e : q = p
    · rw [if_pos e]
      by_cases e2 : p = mUs a
      · rw [if_pos e2]; exact g3 e2
      · rw [if_neg e2, Int32.zero_add]
        obtain ⟨n, hn, en⟩ := z4 _ g2
        obtain ⟨r, r1, r2, r3⟩ := z1
        rw [en, r3]
        exact nI_le (by omega) (by omega)
    · rw [if_neg e]; exact z3 q hq
  · obtain ⟨y1, y2, y3, v1, v2, v3, v4⟩ := z5
    refine ⟨y1 + x1, y2 + x2, y3 + x3, by rw [w3, v1, nI_add], by rw [w4, v2, nI_add], by rw [w5, v3, nI_add], ?_⟩
    rw [zNeed_write hI hg]
    omega
end ZW
