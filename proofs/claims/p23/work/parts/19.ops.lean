/-! WHAT EACH CALL ANSWERS, and the row behind an act (none: nothing changes) -/
theorem b_zero {x : Int32} (h : ∀ i, i < 32 → bt x i = false) : x = 0 := b_ext (fun i hi => by rw [h i hi, b_0])
theorem xInv_ne {a : Nat → Int32} {k : Nat} {v : Int32} (hk : k = 0 ∨ (4 ≤ k ∧ k ≤ 8) ∨ (11 ≤ k ∧ k ≤ 16) ∨ (29 ≤ k ∧ k < 139)) (h : xInv a) : xInv (upd a k v) := by
  have e : ∀ j, (j = 1 ∨ j = 2 ∨ j = 3 ∨ j = 9 ∨ j = 10 ∨ (17 ≤ j ∧ j < 29) ∨ 139 ≤ j) → upd a k v j = a j := fun j hj => upd_ne a v (by omega)
  have e1 : mSt (upd a k v) = mSt a := mSt_e (e 1 (by omega))
  have e2 : mWr (upd a k v) = mWr a := mWr_e (e 2 (by omega))
  obtain ⟨hx, hO, hN, hD, hW, hE, hA⟩ := h
  refine ⟨xIx_e hx (e 1 (by omega)) (e 2 (by omega)) (e 3 (by omega)) (e 10 (by omega)), ?_, ?_, ?_, ?_, ?_, ?_⟩
  · intro p hp s h1 h2; rw [e2] at h1; rw [e _ (by omega)]; exact hO p hp s h1 h2
  · intro s hs j h1 h2; rw [e1] at hs; rw [e _ (by omega)]; exact hN s hs j h1 h2
  · intro p q hp hq hpq s hs; rw [e _ (by omega), e _ (by omega)]; exact hD p q hp hq hpq s hs
  · show upd a k v 9 = _
    rw [e 9 (by omega), hW]
    exact xit_cong 6 0 0 (fun j y h1 h2 => by rw [e _ (by omega)])
  · intro s hs
    rw [e _ (by omega), e2, hE s hs]
    exact xit_cong _ _ _ (fun j y h1 h2 => by rw [e _ (by omega)])
  · intro s h1 h2; rw [e1] at h1; rw [e _ (by omega)]; exact hA s h1 h2
def oRoom (a : Nat → Int32) (x : Int32) : Int32 × Option (Nat → Int32) := if x < 4 ∨ 20 < x then (-2, none) else if x < mFull a then (-4, none) else if a 0 = x then (-5, none) else (a 0, some (upd a 0 x))
def mPlan (a : Nat → Int32) (x y : Int32) : Nat → Int32 := upd (upd (upd a (109 + mSt a) x) (139 + mSt a) y) 1 (a 1 + 1)
def oPlan (a : Nat → Int32) (x y : Int32) : Int32 × Option (Nat → Int32) := if x < 1 ∨ 4 < x ∨ ¬ (y.toUInt32 >>> ((a 1).toUInt32 &&& Int32.toUInt32 31)).toInt32 = 0 then (-2, none) else if 30 ≤ a 1 then (-3, none) else (a 1, some (mPlan a x y))
def oWrite (a : Nat → Int32) : Int32 × Option (Nat → Int32) := match mGo a with
  | none => (-4, none)
  | some p => (nI p, some (mWrite a p))
def oPull (a : Nat → Int32) (x : Int32) : Int32 × Option (Nat → Int32) := if x < 0 ∨ 3 ≤ x then (-1, none) else (mPull a x.toNatClampNeg (4 + x.toNatClampNeg), some (mPull a x.toNatClampNeg))
def oPin (a : Nat → Int32) (x y : Int32) : Int32 × Option (Nat → Int32) := if x < 0 ∨ 6 ≤ x then (-1, none) else if (if bt (a 7) x.toNatClampNeg = true then (1 : Int32) else 0) = y then (-5, none) else (swar (a 7 ^^^ xbit x.toNatClampNeg), some (upd a 7 (a 7 ^^^ xbit x.toNatClampNeg)))
def oWipe (a : Nat → Int32) (x : Int32) : Int32 × Option (Nat → Int32) := if x < 0 ∨ 6 ≤ x then (-1, none) else if bt (a 7) x.toNatClampNeg = true ∨ ¬ mFront a x.toNatClampNeg = true then (-4, none) else if a (17 + x.toNatClampNeg) = 0 then (-5, none) else (swar (a (17 + x.toNatClampNeg)), some (mWipe a x.toNatClampNeg))
def mPhoto (a : Nat → Int32) (p : Nat) : Nat → Int32 := upd (upd (upd a (29 + mTk a) (nI p)) (69 + mTk a) (a (17 + p))) 10 (a 10 + 1)
def oPhoto (a : Nat → Int32) (x : Int32) : Int32 × Option (Nat → Int32) := if x < 0 ∨ 6 ≤ x then (-1, none) else if ¬ mFront a x.toNatClampNeg = true ∨ a (17 + x.toNatClampNeg) = 0 then (-4, none) else if 40 ≤ a 10 then (-3, none) else (swar (a (17 + x.toNatClampNeg) &&& (mPh a ^^^ (-1))), some (mPhoto a x.toNatClampNeg))
def oAsk (a : Nat → Int32) (x : Int32) : Int32 × Option (Nat → Int32) := if x < 0 ∨ a 1 ≤ x then (-1, none) else if a 2 ≤ x then (-4, none) else ((mAsk a x.toNatClampNeg).1, some (mAsk a x.toNatClampNeg).2)
theorem mPlan_inv {a : Nat → Int32} {x y : Int32} (h : xInv a) (hn : mSt a < 30) (hy : ∀ k, mSt a ≤ k → k < 32 → bt y k = false) : xInv (mPlan a x y) := by
  obtain ⟨hx, hO, hN, hD, hW, hE, hA⟩ := h
  obtain ⟨ix1, ix2, ix3, ix4, iy1, iy2, iy3, iy4⟩ := id hx
  have e : ∀ j, j ≠ 1 → j ≠ 109 + mSt a → j ≠ 139 + mSt a → mPlan a x y j = a j := fun j h1 h2 h3 => by unfold mPlan; rw [upd_ne _ _ h1, upd_ne _ _ h3, upd_ne _ _ h2]
  obtain ⟨jx, e1, e2, e3, e4⟩ := xIx_mk (a := mPlan a x y) (n := mSt a + 1) (w := mWr a) (u := mUs a) (t := mTk a) (by unfold mPlan; rw [upd_same, ix1, nI_1]) ((e 2 (by omega) (by omega) (by omega)).trans ix2) ((e 3 (by omega) (by omega) (by omega)).trans ix3) ((e 10 (by omega) (by omega) (by omega)).trans ix4) (by omega) (by omega) iy3 iy4
  refine ⟨jx, ?_, ?_, ?_, ?_, ?_, ?_⟩
  · intro p hp s h1 h2; rw [e2] at h1; rw [e _ (by omega) (by omega) (by omega)]; exact hO p hp s h1 h2
  · intro s hs j h1 h2
    rw [e1] at hs
    by_cases c : s = mSt a
    · subst c
      unfold mPlan
      rw [upd_ne _ _ (by omega), upd_same]
      exact hy j h1 h2
    · rw [e _ (by omega) (by omega) (by omega)]; exact hN s (by omega) j h1 h2
  · intro p q hp hq hpq s hs; rw [e _ (by omega) (by omega) (by omega), e _ (by omega) (by omega) (by omega)]; exact hD p q hp hq hpq s hs
  · show mPlan a x y 9 = _
    rw [e 9 (by omega) (by omega) (by omega), hW]
    exact xit_cong 6 0 0 (fun j z h1 h2 => by rw [e _ (by omega) (by omega) (by omega)])
  · intro s hs
    rw [e _ (by omega) (by omega) (by omega), e2, hE s hs]
    exact xit_cong _ _ _ (fun j z h1 h2 => by rw [e _ (by omega) (by omega) (by omega)])
  · intro s h1 h2; rw [e1] at h1; rw [e _ (by omega) (by omega) (by omega)]; exact hA s (by omega) h2
theorem mWipe_inv {a : Nat → Int32} {p : Nat} (h : xInv a) (hp : p < 6) : xInv (mWipe a p) := by
  obtain ⟨hx, hO, hN, hD, hW, hE, hA⟩ := h
  have e : ∀ j, j ≠ 9 → j ≠ 17 + p → j ≠ 23 + p → mWipe a p j = a j := fun j h1 h2 h3 => by unfold mWipe; rw [upd_ne _ _ h1, upd_ne _ _ h3, upd_ne _ _ h2]
  have eo : ∀ q, q < 6 → mWipe a p (17 + q) = if q = p then 0 else a (17 + q) := fun q hq => by
    unfold mWipe
    rw [upd_ne _ _ (by omega), upd_ne _ _ (by omega)]
    by_cases c : q = p
    · subst c; rw [upd_same, if_pos rfl]
    · rw [upd_ne _ _ (by omega), if_neg c]
  have e1 : mSt (mWipe a p) = mSt a := mSt_e (e 1 (by omega) (by omega) (by omega))
  have e2 : mWr (mWipe a p) = mWr a := mWr_e (e 2 (by omega) (by omega) (by omega))
  refine ⟨xIx_e hx (e 1 (by omega) (by omega) (by omega)) (e 2 (by omega) (by omega) (by omega)) (e 3 (by omega) (by omega) (by omega)) (e 10 (by omega) (by omega) (by omega)), ?_, ?_, ?_, ?_, ?_, ?_⟩
  · intro q hq s h1 h2
    rw [e2] at h1
    rw [eo q hq]
    split
    · exact b_0 s
    · exact hO q hq s h1 h2
  · intro s hs j h1 h2; rw [e1] at hs; rw [e _ (by omega) (by omega) (by omega)]; exact hN s hs j h1 h2
  · intro q r hq hr hqr s hs
    rw [eo q hq, eo r hr]
    split
    · intro z; rw [b_0] at z; cases z
    · split
      · intro _; exact b_0 s
      · exact hD q r hq hr hqr s hs
  · show mWipe a p 9 = _
    unfold mWipe
    rw [upd_same, hW]
    refine (sum6_up (f := fun q => a (23 + q)) (p := p) hp ?_ ?_).symm
    · show upd (upd (upd a (17 + p) 0) (23 + p) (a (23 + p) + 1)) 9 _ (23 + p) = _
      rw [upd_ne _ _ (by omega), upd_same]
    · intro q hq hqp
      show upd (upd (upd a (17 + p) 0) (23 + p) (a (23 + p) + 1)) 9 _ (23 + q) = _
      rw [upd_ne _ _ (by omega), upd_ne _ _ (by omega), upd_ne _ _ (by omega)]
  · intro s hs
    rw [e _ (by omega) (by omega) (by omega), e2, hE s hs]
    exact xit_cong _ _ _ (fun j z h1 h2 => by rw [e _ (by omega) (by omega) (by omega)])
  · intro s h1 h2; rw [e1] at h1; rw [e _ (by omega) (by omega) (by omega)]; exact hA s h1 h2
theorem mPhoto_inv {a : Nat → Int32} {p : Nat} (h : xInv a) (ht : mTk a < 40) : xInv (mPhoto a p) := by
  have h1 : xInv (upd (upd a (29 + mTk a) (nI p)) (69 + mTk a) (a (17 + p))) := xInv_ne (by omega) (xInv_ne (by omega) h)
  have hx := h.1
  generalize hc : upd (upd a (29 + mTk a) (nI p)) (69 + mTk a) (a (17 + p)) = c at h1
  have hc10 : c 10 = a 10 := by rw [← hc, upd_ne _ _ (by omega), upd_ne _ _ (by omega)]
  have e : ∀ j, j ≠ 10 → mPhoto a p j = c j := fun j hj => by unfold mPhoto; rw [hc, upd_ne _ _ hj]
  obtain ⟨kx, hO, hN, hD, hW, hE, hA⟩ := h1
  obtain ⟨ix1, ix2, ix3, ix4, iy1, iy2, iy3, iy4⟩ := id kx
  obtain ⟨jx, e1, e2, e3, e4⟩ := xIx_mk (a := mPhoto a p) (n := mSt c) (w := mWr c) (u := mUs c) (t := mTk a + 1) ((e 1 (by omega)).trans ix1) ((e 2 (by omega)).trans ix2) ((e 3 (by omega)).trans ix3) (by unfold mPhoto; rw [upd_same, hx.2.2.2.1, nI_1]) iy1 iy2 iy3 (by omega)
  refine ⟨jx, ?_, ?_, ?_, ?_, ?_, ?_⟩
  · intro q hq s h1 h2; rw [e2] at h1; rw [e _ (by omega)]; exact hO q hq s h1 h2
  · intro s hs j h1 h2; rw [e1] at hs; rw [e _ (by omega)]; exact hN s hs j h1 h2
  · intro q r hq hr hqr s hs; rw [e _ (by omega), e _ (by omega)]; exact hD q r hq hr hqr s hs
  · show mPhoto a p 9 = _
    rw [e 9 (by omega), hW]
    exact xit_cong 6 0 0 (fun j z h1 h2 => by rw [e _ (by omega)])
  · intro s hs
    rw [e _ (by omega), e2, hE s hs]
    exact xit_cong _ _ _ (fun j z h1 h2 => by rw [e _ (by omega)])
  · intro s h1 h2; rw [e1] at h1; rw [e _ (by omega)]; exact hA s h1 h2
theorem mPull_inv {a : Nat → Int32} {c : Nat} (h : xInv a) (hc : c < 3) : xInv (mPull a c) := xInv_ne (by omega) (xInv_ne (by omega) h)
theorem mBring_inv {a : Nat → Int32} {p : Nat} (h : xInv a) (hp : p < 6) : xInv (mBring a p) := by
  unfold mBring
  split
  · exact h
  · exact mPull_inv h (by omega)
theorem asked_inv {a : Nat → Int32} {s : Nat} {v : Int32} (h : xInv a) (hs : s < mSt a) : xInv (upd a (169 + s) v) := by
  obtain ⟨hx, hO, hN, hD, hW, hE, hA⟩ := h
  have hx6 := hx.2.2.2.2.2.1
  have hx5 := hx.2.2.2.2.1
  have e : ∀ j, j ≠ 169 + s → upd a (169 + s) v j = a j := fun j hj => upd_ne a v hj
  have e1 : mSt (upd a (169 + s) v) = mSt a := mSt_e (e 1 (by omega))
  have e2 : mWr (upd a (169 + s) v) = mWr a := mWr_e (e 2 (by omega))
  refine ⟨xIx_e hx (e 1 (by omega)) (e 2 (by omega)) (e 3 (by omega)) (e 10 (by omega)), ?_, ?_, ?_, ?_, ?_, ?_⟩
  · intro q hq s h1 h2; rw [e2] at h1; rw [e _ (by omega)]; exact hO q hq s h1 h2
  · intro s hs j h1 h2; rw [e1] at hs; rw [e _ (by omega)]; exact hN s hs j h1 h2
  · intro q r hq hr hqr s hs; rw [e _ (by omega), e _ (by omega)]; exact hD q r hq hr hqr s hs
  · show upd a (169 + s) v 9 = _
    rw [e 9 (by omega), hW]
    exact xit_cong 6 0 0 (fun j z h1 h2 => by rw [e _ (by omega)])
  · intro t ht
    rw [e _ (by omega), e2, hE t ht]
    exact xit_cong _ _ _ (fun j z h1 h2 => by rw [e _ (by omega)])
  · intro t h1 h2; rw [e1] at h1; rw [e _ (by omega)]; exact hA t h1 h2
theorem mAsk_inv {a : Nat → Int32} {s : Nat} (h : xInv a) (hs : s < mSt a) : xInv (mAsk a s).2 := by
  cases hp : mPan a s with
  | none =>
    rw [mAsk_none hp]
    split
    · exact xInv_ne (by omega) (asked_inv h hs)
    · exact xInv_ne (by omega) (asked_inv h hs)
  | some p =>
    rw [mAsk_some hp]
    exact xInv_ne (by omega) (mBring_inv (asked_inv h hs) (mPan_lt hp))
theorem mPh_photo {a : Nat → Int32} {p : Nat} (h : xIx a) (ht : mTk a < 40) : mPh (mPhoto a p) = mPh a ||| a (17 + p) := by
  have h10 : (mPhoto a p 10).toNatClampNeg = mTk a + 1 := by
    unfold mPhoto
    rw [upd_same, h.2.2.2.1, nI_1, nI_clamp (by omega)]
  unfold mPh
  rw [h10, xit_last, Nat.zero_add]
  have h1 : mPhoto a p (69 + mTk a) = a (17 + p) := by unfold mPhoto; rw [upd_ne _ _ (by omega), upd_same]
  rw [h1]
  congr 1
  exact xit_cong _ _ _ (fun k y h1 h2 => by unfold mPhoto; rw [upd_ne _ _ (by omega), upd_ne _ _ (by omega), upd_ne _ _ (by omega)])
theorem mPhoto_29 {a : Nat → Int32} {p j : Nat} (hj : j < 40) (ht : mTk a < 40) : mPhoto a p (29 + j) = if j = mTk a then nI p else a (29 + j) := by
  unfold mPhoto
  rw [upd_ne _ _ (by omega), upd_ne _ _ (by omega)]
  by_cases q : j = mTk a
  · subst q; rw [upd_same, if_pos rfl]
  · rw [upd_ne _ _ (by omega), if_neg q]
theorem mPhoto_69 {a : Nat → Int32} {p j : Nat} (hj : j < 40) (ht : mTk a < 40) : mPhoto a p (69 + j) = if j = mTk a then a (17 + p) else a (69 + j) := by
  unfold mPhoto
  rw [upd_ne _ _ (by omega)]
  by_cases q : j = mTk a
  · subst q; rw [upd_same, if_pos rfl]
  · rw [upd_ne _ _ (by omega), upd_ne _ _ (by omega), if_neg q]
theorem RB_take {σ : XSt} {b p : Nat} {a : Nat → Int32} (h : RB σ b a) (hx : xIx a) (ht : mTk a < 40) : RB (xtake b (mTk a) (nI p) (a (17 + p)) σ) b (mPhoto a p) := by
  have e2 : mPh (mPhoto a p) = mPh a ||| a (17 + p) := mPh_photo hx ht
  refine ⟨fun i j k hk => ?_, ?_⟩
  · have hinv := kap_inv hk
    unfold xtake
    by_cases c15 : i = 15
    · subst c15
      rw [su_near _ _ _ (by decide), su_near _ _ _ (by decide), su_same]
      have hj : j < 40 ∧ k = 29 + j := by
        unfold kap at hk
        by_cases q : j < 40
        · simp [q] at hk; exact ⟨q, hk.symm⟩
        · simp [q] at hk
      obtain ⟨hj1, rfl⟩ := hj
      rw [mPhoto_29 hj1 ht]
      by_cases q : j = mTk a
      · subst q; rw [upd_same, if_pos rfl]
      · rw [upd_ne _ _ q, if_neg q]; exact h.1 _ _ _ hk
    · by_cases c17 : i = 17
      · subst c17
        rw [su_near _ _ _ (by decide), su_same]
        have hj : j < 40 ∧ k = 69 + j := by
          unfold kap at hk
          by_cases q : j < 40
          · simp [q] at hk; exact ⟨q, hk.symm⟩
          · simp [q] at hk
        obtain ⟨hj1, rfl⟩ := hj
        rw [mPhoto_69 hj1 ht]
        by_cases q : j = mTk a
        · subst q; rw [upd_same, if_pos rfl]
        · rw [upd_ne _ _ q, if_neg q]; exact h.1 _ _ _ hk
      · by_cases c13 : i = 13
        · subst c13
          rw [su_same]
          have hj : j = 2 ∧ k = 10 := by
            unfold kap at hk
            by_cases q : j = 2
            · simp [q] at hk; exact ⟨q, hk.symm⟩
            · simp [q] at hk
          obtain ⟨rfl, rfl⟩ := hj
          unfold mPhoto
          rw [upd_ne _ _ (by decide), upd_same, upd_same, RB_taken h]
        · rw [su_near _ _ _ c13, su_near _ _ _ c17, su_near _ _ _ c15]
          have hk2 : k ≠ 10 ∧ ¬ (29 ≤ k ∧ k < 109) := by
            have hi := hinv.1
            constructor
            · intro q; subst q; exact c13 (congrArg Prod.fst hi).symm
            · intro q
              rcases Nat.lt_or_ge k 69 with z | z
              · have := kv_15 (j := k - 29) (by omega)
                rw [show 29 + (k - 29) = k by omega, hi] at this
                exact c15 (congrArg Prod.fst this)
              · have := kv_17 (j := k - 69) (by omega)
                rw [show 69 + (k - 69) = k by omega, hi] at this
                exact c17 (congrArg Prod.fst this)
          unfold mPhoto
          rw [upd_ne _ _ hk2.1, upd_ne _ _ (by omega), upd_ne _ _ (by omega)]
          exact h.1 _ _ _ hk
  · rw [e2]
    unfold xtake
    rw [su_same, upd_same, h.2]
def CAct (σ τ : XSt) (a : Nat → Int32) (hl : List (Nat → Int32)) (sn : Option (Nat → Int32)) (q : Option (Nat → Int32)) : Prop := match q with
  | none => τ = σ
  | some c => CRel τ c (hpush hl a) sn ∧ ∀ k, (k < 0 ∨ 150 ≤ k) → τ k = σ k
theorem CAct_now {σ τ ρ : XSt} {a c : Nat → Int32} {hl : List (Nat → Int32)} {sn : Option (Nat → Int32)} (hC : CRel τ a (hpush hl a) sn) (hf : ∀ k, (k < 64 ∨ 150 ≤ k) → τ k = σ k) (hR : RB ρ 1 c) (hI : xInv c) (hx : xfr τ ρ 1) : CAct σ ρ a hl sn (some c) :=
  ⟨CRel_now hC hR hI hx, fun k hk => (hx k (by omega)).trans (hf k (by omega))⟩
theorem x_panel {x : Int32} (h : ¬ (if ¬ x < 0 ∧ x < 6 then (1 : Int32) else 0) = 0) : ∃ p, p < 6 ∧ x = nI p ∧ ¬ (x < 0 ∨ 6 ≤ x) ∧ x.toNatClampNeg = p := by
  by_cases c : ¬ x < 0 ∧ x < 6
  · obtain ⟨j, hj, rfl⟩ := nI_of c.1
    have hj6 : j < 6 := (nI_ltI hj (by decide)).mp (show nI j < nI 6 from c.2)
    exact ⟨j, hj6, rfl, fun q => q.elim c.1 (fun q => Int32.not_le.mpr c.2 q), nI_clamp hj⟩
  · rw [if_neg c] at h; exact absurd rfl h
theorem x_npanel {x : Int32} (h : (if ¬ x < 0 ∧ x < 6 then (1 : Int32) else 0) = 0) : x < 0 ∨ 6 ≤ x := by
  by_cases c1 : x < 0
  · exact Or.inl c1
  · by_cases c2 : x < 6
    · rw [if_pos ⟨c1, c2⟩] at h; exact absurd h (by decide)
    · exact Or.inr (Int32.not_lt.mp c2)
