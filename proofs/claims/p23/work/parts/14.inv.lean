def mTk (a : Nat → Int32) : Nat := (a 10).toNatClampNeg
/-- the row's places are in range -/
def xIx (a : Nat → Int32) : Prop := a 1 = nI (mSt a) ∧ a 2 = nI (mWr a) ∧ a 3 = nI (mUs a) ∧ a 10 = nI (mTk a) ∧ mWr a ≤ mSt a ∧ mSt a ≤ 30 ∧ mUs a < 6 ∧ mTk a ≤ 40
def xOn (a : Nat → Int32) : Prop := ∀ p, p < 6 → ∀ s, mWr a ≤ s → s < 32 → bt (a (17 + p)) s = false
def xNds (a : Nat → Int32) : Prop := ∀ s, s < mSt a → ∀ k, s ≤ k → k < 32 → bt (a (139 + s)) k = false
def xDis (a : Nat → Int32) : Prop := ∀ p q, p < 6 → q < 6 → p ≠ q → ∀ s, s < 32 → bt (a (17 + p)) s = true → bt (a (17 + q)) s = false
def xWps (a : Nat → Int32) : Prop := a 9 = xit (fun p acc => acc + a (23 + p)) 6 0 0
def xNee (a : Nat → Int32) : Prop := ∀ s, s < 30 → a (199 + s) = xit (fun k acc => if bt (a (139 + k)) s = true then acc + 1 else acc) (mWr a - (s + 1)) (s + 1) 0
def xAsk (a : Nat → Int32) : Prop := ∀ s, mSt a ≤ s → s < 30 → a (169 + s) = 0
def xInv (a : Nat → Int32) : Prop := xIx a ∧ xOn a ∧ xNds a ∧ xDis a ∧ xWps a ∧ xNee a ∧ xAsk a
theorem xIx_mk {a : Nat → Int32} {n w u t : Nat} (h1 : a 1 = nI n) (h2 : a 2 = nI w) (h3 : a 3 = nI u) (h4 : a 10 = nI t) (l1 : w ≤ n) (l2 : n ≤ 30) (l3 : u < 6) (l4 : t ≤ 40) : xIx a ∧ mSt a = n ∧ mWr a = w ∧ mUs a = u ∧ mTk a = t := by
  have e1 : mSt a = n := cl_nI h1 (by omega)
  have e2 : mWr a = w := cl_nI h2 (by omega)
  have e3 : mUs a = u := cl_nI h3 (by omega)
  have e4 : mTk a = t := cl_nI h4 (by omega)
  exact ⟨⟨by rw [e1]; exact h1, by rw [e2]; exact h2, by rw [e3]; exact h3, by rw [e4]; exact h4, by omega, by omega, by omega, by omega⟩, e1, e2, e3, e4⟩
theorem mSt_e {a c : Nat → Int32} (h : c 1 = a 1) : mSt c = mSt a := by unfold mSt; rw [h]
theorem mWr_e {a c : Nat → Int32} (h : c 2 = a 2) : mWr c = mWr a := by unfold mWr; rw [h]
theorem mUs_e {a c : Nat → Int32} (h : c 3 = a 3) : mUs c = mUs a := by unfold mUs; rw [h]
theorem mTk_e {a c : Nat → Int32} (h : c 10 = a 10) : mTk c = mTk a := by unfold mTk; rw [h]
theorem xIx_e {a c : Nat → Int32} (h : xIx a) (h1 : c 1 = a 1) (h2 : c 2 = a 2) (h3 : c 3 = a 3) (h4 : c 10 = a 10) : xIx c := by
  unfold xIx
  rw [mSt_e h1, mWr_e h2, mUs_e h3, mTk_e h4, h1, h2, h3, h4]
  exact h
theorem mPh_lo {a : Nat → Int32} {k : Nat} {v : Int32} (h : k ≠ 10) (h2 : k < 69) : mPh (upd a k v) = mPh a := by
  unfold mPh
  rw [upd_ne a v (fun e => h e.symm)]
  exact xit_cong _ _ _ (fun q y h1 h4 => by rw [upd_ne a v (by omega)])
theorem mPh_e {a c : Nat → Int32} (h : c 10 = a 10) (h2 : ∀ k, k < mTk a → c (69 + k) = a (69 + k)) : mPh c = mPh a := by
  unfold mPh
  rw [h]
  exact xit_cong _ _ _ (fun q y h1 h4 => by rw [h2 q (by unfold mTk; omega)])
theorem RB_nine {σ : XSt} {b : Nat} {a : Nat → Int32} {v : Int32} (h : RB σ b a) : RB σ b (upd a 9 v) := by
  refine ⟨fun i j k2 h2 => ?_, ?_⟩
  · rw [upd_ne a v (by have := kap_inv h2; omega)]
    exact h.1 _ _ _ h2
  · rw [mPh_lo (by decide) (by decide)]
    exact h.2
theorem RB_lo {σ : XSt} {b i j k : Nat} {a : Nat → Int32} {v : Int32} (hk : kap i j = some k) (h : RB σ b a) (hp : k ≠ 10) (h2 : k < 69) : RB (su σ (b + i) (upd (σ (b + i)) j v)) b (upd a k v) := RB_set hk h (mPh_lo hp h2)
section AT
variable {σ : XSt} {b : Nat} {a : Nat → Int32}
theorem RB_turn {c : Nat} (h : RB σ b a) (hc : c < 3) : RB (xturn b c σ) b (mPull a c) := by
  have e1 := RB_lo (i := 12) (j := c) (k := 4 + c) (v := a (4 + c) ^^^ 1) (if_pos hc) h (by omega) (by omega)
  have e2 := RB_lo (i := 6) (j := 6) (k := 8) (v := a 8 + 1) rfl e1 (by decide) (by decide)
  rw [su_near σ b _ (by decide)] at e2
  unfold xturn mPull
  rw [RB_front h hc, RB_pulls h]
  exact e2
theorem xfr_turn {c : Nat} : xfr σ (xturn b c σ) b := xfr_tr (xfr_su σ _ (by decide)) (xfr_su _ _ (by decide))
theorem RB_isFront {p : Nat} (h : RB σ b a) (hp : p < 6) : (σ (b + 12) (p / 2) = nI p) ↔ mFront a p = true := by
  unfold mFront
  rw [RB_front h (by omega)]
  simp
theorem RB_bring {p : Nat} (h : RB σ b a) (hp : p < 6) : RB (xbring b p σ) b (mBring a p) := by
  unfold xbring mBring
  by_cases hf : mFront a p = true
  · rw [if_pos ((RB_isFront h hp).mpr hf), if_pos hf]; exact h
  · rw [if_neg (fun q => hf ((RB_isFront h hp).mp q)), if_neg hf]; exact RB_turn h (by omega)
theorem xfr_bring {p : Nat} : xfr σ (xbring b p σ) b := by
  unfold xbring
  split
  · exact xfr_rf σ b
  · exact xfr_turn
theorem RB_clean {p : Nat} (h : RB σ b a) (hp : p < 6) : RB (xclean b p σ) b (mWipe a p) := by
  have e1 := RB_lo (i := 8) (j := p) (k := 17 + p) (v := 0) (if_pos hp) h (by omega) (by omega)
  have e2 := RB_lo (i := 10) (j := p) (k := 23 + p) (v := a (23 + p) + 1) (if_pos hp) e1 (by omega) (by omega)
  rw [su_near σ b _ (by decide)] at e2
  unfold xclean mWipe
  rw [RB_wiped h hp]
  exact RB_nine e2
theorem xfr_clean {p : Nat} : xfr σ (xclean b p σ) b := xfr_tr (xfr_su σ _ (by decide)) (xfr_su _ _ (by decide))
theorem RB_pan {s : Nat} (h : RB σ b a) : xfst (fun p => bt (σ (b + 8) p) s) 6 0 = mPan a s := xfst_cong 6 0 (fun k h1 h2 => by rw [RB_on h (by omega)])
theorem mPan_lt {s p : Nat} (h : mPan a s = some p) : p < 6 := by have := xfst_some h; omega
theorem mLook_none {s : Nat} (h : mPan a s = none) : mLook a s = if bt (mPh a) s = true then upd (upd a (199 + s) (a (199 + s) + 1)) 12 (upd a (199 + s) (a (199 + s) + 1) 12 + 1) else upd (upd a (199 + s) (a (199 + s) + 1)) 13 (upd a (199 + s) (a (199 + s) + 1) 13 + 1) := by
  unfold mLook
  rw [h]
theorem mLook_some {s p : Nat} (h : mPan a s = some p) : mLook a s = if mFront a p = true then upd a (199 + s) (a (199 + s) + 1) else if p / 2 = mUs a / 2 then upd (upd a (199 + s) (a (199 + s) + 1)) 11 (upd a (199 + s) (a (199 + s) + 1) 11 + 1) else mPull (upd a (199 + s) (a (199 + s) + 1)) (p / 2) := by
  unfold mLook
  rw [h]
/-- what looking at a step leaves as it is -/
theorem mLook_fp {s k : Nat} (hk : k < 4 ∨ k = 7 ∨ (9 ≤ k ∧ k ≤ 10) ∨ (14 ≤ k ∧ k < 199)) : mLook a s k = a k := by
  cases hp : mPan a s with
  | none =>
    rw [mLook_none hp]
    split
    · rw [upd_ne _ _ (by omega), upd_ne _ _ (by omega)]
    · rw [upd_ne _ _ (by omega), upd_ne _ _ (by omega)]
  | some p =>
    rw [mLook_some hp]
    have := mPan_lt hp
    split
    · rw [upd_ne _ _ (by omega)]
    · split
      · rw [upd_ne _ _ (by omega), upd_ne _ _ (by omega)]
      · unfold mPull
        rw [upd_ne _ _ (by omega), upd_ne _ _ (by omega), upd_ne _ _ (by omega)]
theorem mLook_need {s t : Nat} : mLook a s (199 + t) = if t = s then a (199 + t) + 1 else a (199 + t) := by
  have h0 : upd a (199 + s) (a (199 + s) + 1) (199 + t) = if t = s then a (199 + t) + 1 else a (199 + t) := by
    by_cases e : t = s
    · subst e; rw [upd_same, if_pos rfl]
    · rw [upd_ne _ _ (by omega), if_neg e]
  rw [← h0]
  cases hp : mPan a s with
  | none =>
    rw [mLook_none hp]
    split
    · rw [upd_ne _ _ (by omega)]
    · rw [upd_ne _ _ (by omega)]
  | some p =>
    rw [mLook_some hp]
    have := mPan_lt hp
    split
    · rfl
    · split
      · rw [upd_ne _ _ (by omega)]
      · unfold mPull
        rw [upd_ne _ _ (by omega), upd_ne _ _ (by omega)]
theorem mLook_ix {s : Nat} (h : xIx a) : xIx (mLook a s) := xIx_e h (mLook_fp (by omega)) (mLook_fp (by omega)) (mLook_fp (by omega)) (mLook_fp (by omega))
theorem mLooks_fp {st n k : Nat} (hk : k < 4 ∨ k = 7 ∨ (9 ≤ k ∧ k ≤ 10) ∨ (14 ≤ k ∧ k < 199)) : mLooks a st n k = a k := by
  unfold mLooks
  have := xit_inv (f := fun s x => if bt (x (139 + st)) s = true then mLook x s else x) (fun _ (x : Nat → Int32) => x k = a k) n 0 a rfl (fun q y _ _ hy => by
    show (if bt (y (139 + st)) q = true then mLook y q else y) k = a k
    split
    · rw [mLook_fp hk]; exact hy
    · exact hy)
  exact this
theorem mLooks_need {st t : Nat} (hst : st < 60) : ∀ n, mLooks a st n (199 + t) = if t < n ∧ bt (a (139 + st)) t = true then a (199 + t) + 1 else a (199 + t)
  | 0 => by
    show a (199 + t) = _
    rw [if_neg (by omega)]
  | n + 1 => by
    have ih := mLooks_need (t := t) hst n
    have hN : mLooks a st n (139 + st) = a (139 + st) := mLooks_fp (by omega)
    have e : mLooks a st (n + 1) = if bt (mLooks a st n (139 + st)) n = true then mLook (mLooks a st n) n else mLooks a st n := by
      have := xit_last (fun s (x : Nat → Int32) => if bt (x (139 + st)) s = true then mLook x s else x) n 0 a
      rw [Nat.zero_add] at this
      exact this
    rw [e, hN]
    by_cases hb : bt (a (139 + st)) n = true
    · rw [if_pos hb, mLook_need, ih]
      by_cases ht : t = n
      · subst ht
        rw [if_pos rfl, if_neg (by omega), if_pos ⟨by omega, hb⟩]
      · rw [if_neg ht]
        by_cases h2 : t < n ∧ bt (a (139 + st)) t = true
        · rw [if_pos h2, if_pos ⟨by omega, h2.2⟩]
        · rw [if_neg h2, if_neg (fun q => h2 ⟨by omega, q.2⟩)]
    · rw [if_neg hb, ih]
      by_cases h2 : t < n ∧ bt (a (139 + st)) t = true
      · rw [if_pos h2, if_pos ⟨by omega, h2.2⟩]
      · rw [if_neg h2, if_neg (fun q => h2 ⟨by
          rcases Nat.lt_or_ge t n with z | z
          · exact z
          · have : t = n := by omega
            subst this
            exact absurd q.2 hb, q.2⟩)]
end AT
