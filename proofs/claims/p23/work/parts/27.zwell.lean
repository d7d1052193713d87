/-! what the law looks at behind each step -/
theorem zs_more {f : Nat → Nat} {m : Nat} : ∀ n, (∀ k, m ≤ k → f k = 0) → zs f (m + n) = zs f m
  | 0, _ => rfl
  | n + 1, h => by rw [show m + (n + 1) = (m + n) + 1 by omega, zs, zs_more n h, h (m + n) (by omega), Nat.add_zero]
/-- the union of the first n rows from the place b on -/
def zOr (a : Nat → Int32) (b n : Nat) : Int32 := xit (fun p (acc : Int32) => acc ||| a (b + p)) n 0 0
theorem zOr_s (a : Nat → Int32) (b n : Nat) : zOr a b (n + 1) = zOr a b n ||| a (b + n) := xit_s _ n 0
theorem zOr_in {a : Nat → Int32} {b i : Nat} : ∀ n, bt (zOr a b n) i = true → ∃ q, q < n ∧ bt (a (b + q)) i = true
  | 0, h => by
    have : bt (0 : Int32) i = true := h
    rw [b_0] at this; cases this
  | n + 1, h => by
    rw [zOr_s, b_or] at h
    rcases Bool.or_eq_true_iff.mp h with h1 | h1
    · obtain ⟨q, q1, q2⟩ := zOr_in n h1
      exact ⟨q, by omega, q2⟩
    · exact ⟨n, by omega, h1⟩
theorem zOr_of {a : Nat → Int32} {b i q : Nat} (h : bt (a (b + q)) i = true) : ∀ n, q < n → bt (zOr a b n) i = true
  | 0, hq => absurd hq (Nat.not_lt_zero _)
  | n + 1, hq => by
    rw [zOr_s, b_or]
    by_cases e : q = n
    · subst e; rw [h, Bool.or_true]
    · rw [zOr_of h n (by omega), Bool.true_or]
theorem zOr_no {a : Nat → Int32} {b i n : Nat} (h : ∀ q, q < n → bt (a (b + q)) i = false) : bt (zOr a b n) i = false := by
  cases hb : bt (zOr a b n) i with
  | false => rfl
  | true =>
    obtain ⟨q, q1, q2⟩ := zOr_in n hb
    rw [h q q1] at q2; cases q2
section ZL
variable {a : Nat → Int32}
theorem mPh_or : mPh a = zOr a 69 (mTk a) := rfl
theorem mPh_lo2 (h : zInv a) : ∀ s, mWr a ≤ s → s < 32 → bt (mPh a) s = false := fun s h1 h2 => by
  rw [mPh_or]
  exact zOr_no (fun q hq => (h.2.2.2.2.2.2 q hq).2.2 s h1 h2)
theorem zOn_lo (hI : xInv a) : ∀ s, mWr a ≤ s → s < 32 → bt (zOr a 17 6) s = false := fun s h1 h2 => zOr_no (fun q hq => hI.2.1 q hq s h1 h2)
theorem zAsked (h : zInv a) (hI : xInv a) : xit (fun k (acc : Int32) => acc + a (169 + k)) (mSt a) 0 0 = a 14 + a 15 + a 16 := by
  obtain ⟨b1, b2, b3, b4⟩ := xIx_b hI.1
  rw [← h.2.2.2.2.2.1, show (30 : Nat) = mSt a + (30 - mSt a) by omega, xit_add]
  exact (xit_id _ _ _ (fun k y h1 h2 => by rw [hI.2.2.2.2.2.2 k (by omega) (by omega), Int32.add_zero])).symm
theorem zNee_n (hI : xInv a) {s : Nat} (hs : s < 30) : a (199 + s) = nI (zc (fun k => bt (a (139 + k)) s) (mWr a)) := by
  obtain ⟨b1, b2, b3, b4⟩ := xIx_b hI.1
  rw [hI.2.2.2.2.2.1 s hs]
  have hlo : ∀ k, k ≤ s → k < mWr a → bt (a (139 + k)) s = false := fun k h1 h2 => hI.2.2.1 k (by omega) s h1 (by omega)
  by_cases h : s + 1 ≤ mWr a
  · rw [← xi_cnt2, show mWr a = (s + 1) + (mWr a - (s + 1)) by omega, xit_add, Nat.zero_add, xit_id (s + 1) 0 0 (fun k y h1 h2 => by rw [hlo k (by omega) (by omega), if_neg (by simp)])]
    rw [show s + 1 + (mWr a - (s + 1)) - (s + 1) = mWr a - (s + 1) by omega]
  · rw [show mWr a - (s + 1) = 0 by omega, zc_false (mWr a) (fun k hk => hlo k (by omega) hk)]
    rfl
theorem zNds_c (hI : xInv a) {k n : Nat} (hk : k < mSt a) (h1 : k ≤ n) (h2 : n ≤ 32) : zc (bt (a (139 + k))) n = zc (bt (a (139 + k))) k := zc_bt (by have := xIx_b hI.1; omega) (fun i q1 q2 => hI.2.2.1 k hk i q1 q2) h1 h2
theorem zNeeded (hI : xInv a) : xit (fun k (acc : Int32) => acc + a (199 + k)) (mSt a) 0 0 = nI (zNeed a) := by
  obtain ⟨b1, b2, b3, b4⟩ := xIx_b hI.1
  rw [xi_sum (f := fun s => zc (fun k => bt (a (139 + k)) s) (mWr a)) (mSt a) (fun k hk => zNee_n hI (by omega)), zs_swap (fun k s => bt (a (139 + k)) s)]
  unfold zNeed
  congr 1
  exact zs_cong _ (fun k hk => by
    show zc (bt (a (139 + k))) (mSt a) = zc (bt (a (139 + k))) 30
    rw [zNds_c (n := mSt a) hI (by omega) (by omega) (by omega), zNds_c (n := 30) hI (by omega) (by omega) (by omega)])
theorem zTold (hI : xInv a) : xit (fun k (acc : Int32) => acc + (if k < mWr a then zBits (a (139 + k)) else 0)) (mSt a) 0 0 = nI (zNeed a) := by
  obtain ⟨b1, b2, b3, b4⟩ := xIx_b hI.1
  rw [xi_sum (f := fun k => if k < mWr a then zc (bt (a (139 + k))) 30 else 0) (mSt a) (fun k hk => by
    split
    · exact zBits_n _
    · rfl)]
  unfold zNeed
  congr 1
  rw [show mSt a = mWr a + (mSt a - mWr a) by omega, zs_more _ (fun k hk => if_neg (by omega))]
  exact zs_cong _ (fun k hk => if_pos hk)
theorem zPhd (h : zInv a) (hI : xInv a) : xit (fun k (acc : Int32) => acc + (if bt (mPh a) k = true then 1 else 0)) (mSt a) 0 0 = zBits (mPh a) := by
  obtain ⟨b1, b2, b3, b4⟩ := xIx_b hI.1
  rw [xi_cnt, zBits_n, zc_bt (n := mWr a) (by omega) (mPh_lo2 h) (by omega) (by omega), zc_bt (n := mWr a) (m := 30) (by omega) (mPh_lo2 h) (by omega) (by omega)]
theorem swar_b {x : Int32} (h : ∀ s, 30 ≤ s → s < 32 → bt x s = false) : swar x = zBits x := by
  rw [swar_zc, zBits_n, zc_bt (n := 30) (m := 32) (by omega) h (by omega) (by omega)]
theorem zGone (h : zInv a) (hI : xInv a) : swar (xit (fun p acc => acc ||| a (17 + p)) 6 0 0 ||| mPh a) = zBits (zOr a 17 6 ||| mPh a) := by
  obtain ⟨b1, b2, b3, b4⟩ := xIx_b hI.1
  exact swar_b (fun s h1 h2 => by
    rw [b_or, mPh_lo2 h s (by omega) h2, Bool.or_false]
    exact zOn_lo hI s (by omega) h2)
theorem zMissed (h : zInv a) : ∃ n, n ≤ zNeed a ∧ a 11 + a 12 + a 13 = nI n := by
  obtain ⟨x, l, o, h1, h2, h3, h4⟩ := h.2.2.2.2.1
  exact ⟨x + l + o, h4, by rw [h1, h2, h3, nI_add, nI_add]⟩
theorem zNeed_le (hI : xInv a) : zNeed a ≤ 900 := by
  obtain ⟨b1, b2, b3, b4⟩ := xIx_b hI.1
  have := zs_le (f := fun k => zc (bt (a (139 + k))) 30) (m := 30) (mWr a) (fun k hk => zc_le _ _)
  unfold zNeed
  omega
theorem zDisj (hI : xInv a) {p : Nat} (hp : p < 6) : zOr a 17 p &&& a (17 + p) = 0 := b_zero (fun i hi => by
  rw [b_and]
  cases hb : bt (a (17 + p)) i with
  | false => rw [Bool.and_false]
  | true =>
    rw [Bool.and_true]
    exact zOr_no (fun q hq => hI.2.2.2.1 p q hp (by omega) (by omega) i hi hb))
theorem mPan_none {s : Nat} (h : mPan a s = none) : bt (zOr a 17 6) s = false := zOr_no (fun q hq => xfst_none.mp h q (Nat.zero_le _) (by omega))
theorem mPan_at {s p : Nat} (h : mPan a s = some p) : p < 6 ∧ bt (a (17 + p)) s = true ∧ bt (zOr a 17 6) s = true := by
  obtain ⟨h1, h2, h3⟩ := xfst_some h
  exact ⟨by omega, h3, zOr_of h3 6 (by omega)⟩
theorem mPan_wr (hI : xInv a) {s p : Nat} (hs : s < 32) (h : mPan a s = some p) : s < mWr a := by
  obtain ⟨h1, h2, h3⟩ := mPan_at h
  refine Nat.lt_of_not_le (fun q => ?_)
  rw [hI.2.1 p h1 s q hs] at h2
  cases h2
theorem mPan_eq {s p : Nat} (hI : xInv a) (hs : s < 32) (hp : p < 6) (h : bt (a (17 + p)) s = true) : mPan a s = some p := by
  cases hq : mPan a s with
  | none => have := xfst_none.mp hq p (Nat.zero_le _) (by omega); rw [h] at this; cases this
  | some q =>
    obtain ⟨h1, h2, h3⟩ := mPan_at hq
    by_cases e : q = p
    · rw [e]
    · rw [hI.2.2.2.1 p q hp h1 (fun z => e z.symm) s hs h] at h2; cases h2
/-- the other panel of the column -/
def zOth (p : Nat) : Nat := if p % 2 = 0 then p + 1 else p - 1
theorem zOth_i : ∀ p, p < 6 → nI p ^^^ 1 = nI (zOth p) ∧ zOth p < 6 ∧ zOth p / 2 = p / 2 := by decide
theorem zFront2 (h : zFr a) {p : Nat} (hp : p < 6) : (if mFront a p = true then (1 : Int32) else 0) + (if mFront a (zOth p) = true then 1 else 0) = 1 := by
  obtain ⟨o1, o2, o3⟩ := zOth_i p hp
  have hz : zOth p = 2 * (p / 2) ∧ p = 2 * (p / 2) + 1 ∨ zOth p = 2 * (p / 2) + 1 ∧ p = 2 * (p / 2) := by unfold zOth; split <;> omega
  have hn : ¬ nI (2 * (p / 2)) = nI (2 * (p / 2) + 1) := fun q => by have := nI_inj (by omega) (by omega) q; omega
  unfold mFront
  rw [o3]
  rcases h (p / 2) (by omega) with q | q <;> rw [q] <;> rcases hz with ⟨y1, y2⟩ | ⟨y1, y2⟩ <;> rw [y1]
  · rw [decide_eq_false (p := nI (2 * (p / 2)) = nI p) (by rw [y2]; simpa using (show ¬ nI (2 * ((2 * (p / 2) + 1) / 2)) = nI (2 * (p / 2) + 1) by rw [show (2 * (p / 2) + 1) / 2 = p / 2 by omega]; exact hn))]
    simp
  · rw [decide_eq_true (p := nI (2 * (p / 2)) = nI p) (by rw [← y2]), decide_eq_false hn]
    rfl
  · rw [decide_eq_true (p := nI (2 * (p / 2) + 1) = nI p) (by rw [← y2]), decide_eq_false (fun z => hn z.symm)]
    rfl
  · rw [decide_eq_false (p := nI (2 * (p / 2) + 1) = nI p) (fun z => hn (by rw [z, ← y2]))]
    simp
theorem zFresh {p : Nat} : (a (17 + p) &&& (mPh a ^^^ (-1))) &&& (a (17 + p) ^^^ (-1)) = 0 := b_zero (fun i hi => by
  rw [b_and, b_and, b_not _ hi, b_not _ hi]
  cases bt (a (17 + p)) i <;> simp)
theorem zShr {k : Nat} (hI : xInv a) (hk : k < mSt a) : a (139 + k) >>> (nI k &&& 31) = 0 := b_zero (fun i hi => by
  obtain ⟨b1, b2, b3, b4⟩ := xIx_b hI.1
  rw [b_sshr k (by omega) _ hi]
  split
  · exact hI.2.2.1 k hk _ (by omega) (by omega)
  · exact hI.2.2.1 k hk 31 (by omega) (by omega))
theorem zPhoto {k : Nat} (h : zInv a) (hI : xInv a) (hk : k < mTk a) : 0 < a (69 + k) ∧ ∃ p, p < 6 ∧ a (29 + k) = nI p := by
  obtain ⟨b1, b2, b3, b4⟩ := xIx_b hI.1
  obtain ⟨q1, q2, q3⟩ := h.2.2.2.2.2.2 k hk
  exact ⟨i_pos q2 (q3 31 (by omega) (by omega)), q1⟩
theorem zWps (hI : xInv a) : xit (fun p acc => acc + a (23 + p)) 6 0 0 = a 9 := hI.2.2.2.2.1.symm
end ZL
