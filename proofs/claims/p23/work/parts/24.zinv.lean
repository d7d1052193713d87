/-! WHAT ALWAYS HOLDS OF A LECTURE, beside xInv: the room, a panel of each column in front, lines, what was missed, questions, photos -/
def zNeed (a : Nat → Int32) : Nat := zs (fun k => zc (bt (a (139 + k))) 30) (mWr a)
def zRm (a : Nat → Int32) : Prop := ∃ r, 4 ≤ r ∧ r ≤ 20 ∧ a 0 = nI r
def zFr (a : Nat → Int32) : Prop := ∀ c, c < 3 → a (4 + c) = nI (2 * c) ∨ a (4 + c) = nI (2 * c + 1)
def zLn (a : Nat → Int32) : Prop := ∀ p, p < 6 → mLines a p ≤ a 0
def zSz (a : Nat → Int32) : Prop := ∀ s, s < mSt a → ∃ n, n ≤ 4 ∧ a (109 + s) = nI n
def zMs (a : Nat → Int32) : Prop := ∃ h l o, a 11 = nI h ∧ a 12 = nI l ∧ a 13 = nI o ∧ h + l + o ≤ zNeed a
def zAk (a : Nat → Int32) : Prop := xit (fun s (acc : Int32) => acc + a (169 + s)) 30 0 0 = a 14 + a 15 + a 16
def zPt (a : Nat → Int32) : Prop := ∀ k, k < mTk a → (∃ p, p < 6 ∧ a (29 + k) = nI p) ∧ a (69 + k) ≠ 0 ∧ ∀ s, mWr a ≤ s → s < 32 → bt (a (69 + k)) s = false
def zInv (a : Nat → Int32) : Prop := zRm a ∧ zFr a ∧ zLn a ∧ zSz a ∧ zMs a ∧ zAk a ∧ zPt a
theorem i_self (x : Int32) : x = nI x.toBitVec.toNat := by
  apply Int32.toBitVec_inj.mp
  show _ = BitVec.ofNat 32 _
  simp
theorem i_nat {x : Int32} {n : Nat} (h : ∀ k, n ≤ k → k < 32 → bt x k = false) : ∃ j, j < 2 ^ n ∧ x = nI j := by
  refine ⟨x.toBitVec.toNat, Nat.lt_pow_two_of_testBit _ (fun i hi => ?_), i_self x⟩
  show bt x i = false
  by_cases hi2 : i < 32
  · exact h i hi hi2
  · exact b_big (by omega)
theorem i_pos {x : Int32} (h0 : x ≠ 0) (h : bt x 31 = false) : 0 < x := by
  obtain ⟨j, hj, rfl⟩ := i_nat (x := x) (n := 31) (fun k h1 h2 => by rw [show k = 31 by omega]; exact h)
  have hj0 : 0 < j := Nat.pos_of_ne_zero (fun e => h0 (by rw [e]; rfl))
  exact nI_lt (a := 0) hj0 (by omega)
section ZE
variable {a c : Nat → Int32}
theorem zFr_e (h : zFr a) (e : ∀ j, j < 3 → c (4 + j) = a (4 + j)) : zFr c := fun j hj => by rw [e j hj]; exact h j hj
theorem zLn_e (h : zLn a) (hm : mSt a ≤ 30) (h0 : c 0 = a 0) (h1 : c 1 = a 1) (h2 : ∀ p, p < 6 → c (17 + p) = a (17 + p)) (h3 : ∀ k, k < 30 → c (109 + k) = a (109 + k)) : zLn c := fun p hp => by
  rw [mLines_e hm h1 (h2 p hp) h3, h0]; exact h p hp
theorem zSz_e (h : zSz a) (hm : mSt a ≤ 30) (h1 : c 1 = a 1) (h3 : ∀ k, k < 30 → c (109 + k) = a (109 + k)) : zSz c := fun s hs => by
  rw [mSt_e h1] at hs
  rw [h3 s (by omega)]
  exact h s hs
theorem zNeed_e (hm : mWr a ≤ 30) (h2 : c 2 = a 2) (h3 : ∀ k, k < mWr a → c (139 + k) = a (139 + k)) : zNeed c = zNeed a := by
  unfold zNeed
  rw [mWr_e h2]
  exact zs_cong _ (fun k hk => by rw [h3 k hk])
theorem zMs_e (h : zMs a) (e1 : c 11 = a 11) (e2 : c 12 = a 12) (e3 : c 13 = a 13) (hn : zNeed c = zNeed a) : zMs c := by
  unfold zMs
  rw [e1, e2, e3, hn]
  exact h
theorem zAk_e (h : zAk a) (e1 : c 14 = a 14) (e2 : c 15 = a 15) (e3 : c 16 = a 16) (e : ∀ k, k < 30 → c (169 + k) = a (169 + k)) : zAk c := by
  unfold zAk
  rw [e1, e2, e3, xit_cong (g := fun s (acc : Int32) => acc + a (169 + s)) 30 0 0 (fun k y h1 h2 => by rw [e k (by omega)])]
  exact h
theorem zPt_e (h : zPt a) (ht : mTk a ≤ 40) (h10 : c 10 = a 10) (h2 : mWr a ≤ mWr c) (h3 : ∀ k, 29 ≤ k → k < 109 → c k = a k) : zPt c := fun k hk => by
  rw [mTk_e h10] at hk
  obtain ⟨q1, q2, q3⟩ := h k hk
  rw [h3 (29 + k) (by omega) (by omega), h3 (69 + k) (by omega) (by omega)]
  exact ⟨q1, q2, fun s hs1 hs2 => q3 s (by omega) hs2⟩
end ZE
section ZP
variable {a : Nat → Int32}
theorem xIx_b (h : xIx a) : mWr a ≤ mSt a ∧ mSt a ≤ 30 ∧ mUs a < 6 ∧ mTk a ≤ 40 := ⟨h.2.2.2.2.1, h.2.2.2.2.2.1, h.2.2.2.2.2.2.1, h.2.2.2.2.2.2.2⟩
/-- what the law's numbers don't look at -/
theorem zInv_q {k : Nat} {v : Int32} (h : zInv a) (hx : xIx a) (hk : k = 7 ∨ k = 8 ∨ k = 9 ∨ (23 ≤ k ∧ k < 29) ∨ 199 ≤ k) : zInv (upd a k v) := by
  obtain ⟨z1, z2, z3, z4, z5, z6, z7⟩ := h
  obtain ⟨b1, b2, b3, b4⟩ := xIx_b hx
  have e : ∀ j, (j < 7 ∨ (10 ≤ j ∧ j < 23) ∨ (29 ≤ j ∧ j < 199)) → upd a k v j = a j := fun j hj => upd_ne a v (by omega)
  refine ⟨?_, zFr_e z2 (fun j hj => e _ (by omega)), zLn_e z3 b2 (e _ (by omega)) (e _ (by omega)) (fun p hp => e _ (by omega)) (fun k hk => e _ (by omega)), zSz_e z4 b2 (e _ (by omega)) (fun k hk => e _ (by omega)), zMs_e z5 (e _ (by omega)) (e _ (by omega)) (e _ (by omega)) (zNeed_e (by omega) (e _ (by omega)) (fun k hk => e _ (by omega))), zAk_e z6 (e _ (by omega)) (e _ (by omega)) (e _ (by omega)) (fun k hk => e _ (by omega)), zPt_e z7 b4 (e _ (by omega)) (Nat.le_of_eq (mWr_e (e _ (by omega))).symm) (fun k h1 h2 => e _ (by omega))⟩
  show ∃ r, 4 ≤ r ∧ r ≤ 20 ∧ upd a k v 0 = nI r
  rw [e 0 (by omega)]
  exact z1
theorem mFull_ge {p : Nat} (hp : p < 6) : mLines a p ≤ mFull a := by
  unfold mFull
  have := xit_inv (f := fun p (acc : Int32) => if acc < mLines a p then mLines a p else acc) (fun i acc => ∀ q, q < i → mLines a q ≤ acc) 6 0 0 (fun q hq => absurd hq (Nat.not_lt_zero _)) (fun k y h1 h2 ih q hq => by
    show mLines a q ≤ if y < mLines a k then mLines a k else y
    by_cases hlt : y < mLines a k
    · rw [if_pos hlt]
      by_cases e : q = k
      · subst e; exact Int32.le_refl _
      · exact Int32.le_trans (ih q (by omega)) (Int32.le_of_lt hlt)
    · rw [if_neg hlt]
      by_cases e : q = k
      · subst e; exact Int32.not_lt.mp hlt
      · exact ih q (by omega))
  exact this p hp
theorem zInv_room {r : Nat} (h : zInv a) (hx : xIx a) (h4 : 4 ≤ r) (h20 : r ≤ 20) (hm : ¬ nI r < mFull a) : zInv (upd a 0 (nI r)) := by
  obtain ⟨z1, z2, z3, z4, z5, z6, z7⟩ := h
  obtain ⟨b1, b2, b3, b4⟩ := xIx_b hx
  have e : ∀ j, 0 < j → upd a 0 (nI r) j = a j := fun j hj => upd_ne a _ (by omega)
  refine ⟨⟨r, h4, h20, upd_same _ _ _⟩, zFr_e z2 (fun j hj => e _ (by omega)), fun p hp => ?_, zSz_e z4 b2 (e _ (by omega)) (fun k hk => e _ (by omega)), zMs_e z5 (e _ (by omega)) (e _ (by omega)) (e _ (by omega)) (zNeed_e (by omega) (e _ (by omega)) (fun k hk => e _ (by omega))), zAk_e z6 (e _ (by omega)) (e _ (by omega)) (e _ (by omega)) (fun k hk => e _ (by omega)), zPt_e z7 b4 (e _ (by omega)) (Nat.le_of_eq (mWr_e (e _ (by omega))).symm) (fun k h1 h2 => e _ (by omega))⟩
  rw [mLines_e b2 (e _ (by omega)) (e _ (by omega)) (fun k hk => e _ (by omega)), upd_same]
  exact Int32.le_trans (mFull_ge hp) (Int32.not_lt.mp hm)
theorem zInv_plan {n : Nat} {y : Int32} (h : zInv a) (hI : xInv a) (hn : n ≤ 4) (hs : mSt a < 30) : zInv (mPlan a (nI n) y) := by
  obtain ⟨z1, z2, z3, z4, z5, z6, z7⟩ := h
  obtain ⟨hx, hO, -⟩ := hI
  obtain ⟨b1, b2, b3, b4⟩ := xIx_b hx
  have e : ∀ j, j ≠ 1 → j ≠ 109 + mSt a → j ≠ 139 + mSt a → mPlan a (nI n) y j = a j := fun j h1 h2 h3 => by
    unfold mPlan
    rw [upd_ne _ _ h1, upd_ne _ _ h3, upd_ne _ _ h2]
  have e1 : mPlan a (nI n) y 1 = nI (mSt a + 1) := by
    unfold mPlan
    rw [upd_same, ← nI_1, ← hx.1]
  have es : mSt (mPlan a (nI n) y) = mSt a + 1 := cl_nI e1 (by omega)
  have e109 : mPlan a (nI n) y (109 + mSt a) = nI n := by
    unfold mPlan
    rw [upd_ne _ _ (by omega), upd_ne _ _ (by omega), upd_same]
  have ew : mWr (mPlan a (nI n) y) = mWr a := mWr_e (e 2 (by omega) (by omega) (by omega))
  refine ⟨?_, zFr_e z2 (fun j hj => e _ (by omega) (by omega) (by omega)), fun p hp => ?_, fun s hs => ?_, zMs_e z5 (e _ (by omega) (by omega) (by omega)) (e _ (by omega) (by omega) (by omega)) (e _ (by omega) (by omega) (by omega)) (zNeed_e (by omega) (e _ (by omega) (by omega) (by omega)) (fun k hk => e _ (by omega) (by omega) (by omega))), zAk_e z6 (e _ (by omega) (by omega) (by omega)) (e _ (by omega) (by omega) (by omega)) (e _ (by omega) (by omega) (by omega)) (fun k hk => e _ (by omega) (by omega) (by omega)), zPt_e z7 b4 (e _ (by omega) (by omega) (by omega)) (Nat.le_of_eq ew.symm) (fun k h1 h2 => e _ (by omega) (by omega) (by omega))⟩
  · show ∃ r, 4 ≤ r ∧ r ≤ 20 ∧ mPlan a (nI n) y 0 = nI r
    rw [e 0 (by omega) (by omega) (by omega)]
    exact z1
  · rw [e 0 (by omega) (by omega) (by omega)]
    have : mLines (mPlan a (nI n) y) p = mLines a p := by
      unfold mLines
      rw [es, xit_s, e (17 + p) (by omega) (by omega) (by omega), hO p hp (mSt a) b1 (by omega)]
      simp only [Bool.false_eq_true, if_false, Int32.add_zero]
      exact xit_cong _ _ _ (fun k y q1 q2 => by rw [e (109 + k) (by omega) (by omega) (by omega)])
    rw [this]
    exact z3 p hp
  · rw [es] at hs
    by_cases hsn : s = mSt a
    · subst hsn; rw [e109]; exact ⟨n, hn, rfl⟩
    · rw [e (109 + s) (by omega) (by omega) (by omega)]
      exact z4 s (by omega)
theorem zInv_wipe {p : Nat} (h : zInv a) (hx : xIx a) (hp : p < 6) : zInv (mWipe a p) := by
  have h0 : zInv (upd a (17 + p) 0) := by
    obtain ⟨z1, z2, z3, z4, z5, z6, z7⟩ := h
    obtain ⟨b1, b2, b3, b4⟩ := xIx_b hx
    have e : ∀ j, j ≠ 17 + p → upd a (17 + p) 0 j = a j := fun j hj => upd_ne a _ hj
    refine ⟨?_, zFr_e z2 (fun j hj => e _ (by omega)), fun q hq => ?_, zSz_e z4 b2 (e _ (by omega)) (fun k hk => e _ (by omega)), zMs_e z5 (e _ (by omega)) (e _ (by omega)) (e _ (by omega)) (zNeed_e (by omega) (e _ (by omega)) (fun k hk => e _ (by omega))), zAk_e z6 (e _ (by omega)) (e _ (by omega)) (e _ (by omega)) (fun k hk => e _ (by omega)), zPt_e z7 b4 (e _ (by omega)) (Nat.le_of_eq (mWr_e (e _ (by omega))).symm) (fun k h1 h2 => e _ (by omega))⟩
    · show ∃ r, 4 ≤ r ∧ r ≤ 20 ∧ upd a (17 + p) 0 0 = nI r
      rw [e 0 (by omega)]
      exact z1
    · rw [e 0 (by omega)]
      by_cases hqp : q = p
      · subst hqp
        have : mLines (upd a (17 + q) 0) q = 0 := by
          unfold mLines
          rw [upd_same]
          exact xit_id _ _ _ (fun k y h1 h2 => by rw [b_0]; simp)
        rw [this]
        obtain ⟨r, r1, r2, r3⟩ := z1
        rw [r3]
        exact nI_pos' (by omega)
      · rw [mLines_e b2 (e _ (by omega)) (e _ (by omega)) (fun k hk => e _ (by omega))]
        exact z3 q hq
  have hx0 : xIx (upd a (17 + p) 0) := xIx_e hx (upd_ne _ _ (by omega)) (upd_ne _ _ (by omega)) (upd_ne _ _ (by omega)) (upd_ne _ _ (by omega))
  unfold mWipe
  have h1 := zInv_q (k := 23 + p) (v := a (23 + p) + 1) h0 hx0 (by omega)
  exact zInv_q (k := 9) h1 (xIx_e hx0 (upd_ne _ _ (by omega)) (upd_ne _ _ (by omega)) (upd_ne _ _ (by omega)) (upd_ne _ _ (by omega))) (by omega)
theorem zInv_photo {p : Nat} (h : zInv a) (hI : xInv a) (hp : p < 6) (ht : mTk a < 40) (hne : a (17 + p) ≠ 0) : zInv (mPhoto a p) := by
  obtain ⟨z1, z2, z3, z4, z5, z6, z7⟩ := h
  obtain ⟨hx, hO, -⟩ := hI
  obtain ⟨b1, b2, b3, b4⟩ := xIx_b hx
  have e : ∀ j, (j < 10 ∨ (10 < j ∧ j < 29) ∨ 109 ≤ j) → mPhoto a p j = a j := fun j hj => by
    unfold mPhoto
    rw [upd_ne _ _ (by omega), upd_ne _ _ (by omega), upd_ne _ _ (by omega)]
  have e10 : mPhoto a p 10 = nI (mTk a + 1) := by
    unfold mPhoto
    rw [upd_same, ← nI_1, ← hx.2.2.2.1]
  have et : mTk (mPhoto a p) = mTk a + 1 := cl_nI e10 (by omega)
  have ew : mWr (mPhoto a p) = mWr a := mWr_e (e 2 (by omega))
  refine ⟨?_, zFr_e z2 (fun j hj => e _ (by omega)), zLn_e z3 b2 (e _ (by omega)) (e _ (by omega)) (fun p hp => e _ (by omega)) (fun k hk => e _ (by omega)), zSz_e z4 b2 (e _ (by omega)) (fun k hk => e _ (by omega)), zMs_e z5 (e _ (by omega)) (e _ (by omega)) (e _ (by omega)) (zNeed_e (by omega) (e _ (by omega)) (fun k hk => e _ (by omega))), zAk_e z6 (e _ (by omega)) (e _ (by omega)) (e _ (by omega)) (fun k hk => e _ (by omega)), fun k hk => ?_⟩
  · show ∃ r, 4 ≤ r ∧ r ≤ 20 ∧ mPhoto a p 0 = nI r
    rw [e 0 (by omega)]
    exact z1
  · rw [et] at hk
    rw [ew, mPhoto_29 (by omega) ht, mPhoto_69 (by omega) ht]
    by_cases hkt : k = mTk a
    · rw [if_pos hkt, if_pos hkt]
      exact ⟨⟨p, hp, rfl⟩, hne, fun s h1 h2 => hO p hp s h1 h2⟩
    · rw [if_neg hkt, if_neg hkt]
      exact z7 k (by omega)
theorem fr_x : ∀ c, c < 3 → nI (2 * c) ^^^ 1 = nI (2 * c + 1) ∧ nI (2 * c + 1) ^^^ 1 = nI (2 * c) := by decide
theorem zFr_pull {c : Nat} (h : zFr a) (hc : c < 3) : zFr (mPull a c) := fun j hj => by
  unfold mPull
  rw [upd_ne _ _ (by omega)]
  by_cases e : j = c
  · subst e
    rw [upd_same]
    rcases h j hj with q | q
    · rw [q, (fr_x j hj).1]; exact Or.inr rfl
    · rw [q, (fr_x j hj).2]; exact Or.inl rfl
  · rw [upd_ne _ _ (by omega)]
    exact h j hj
theorem zInv_fr {c : Nat → Int32} (h : zInv a) (hx : xIx a) (hf : zFr c) (he : ∀ k, ¬ (4 ≤ k ∧ k < 7) → k ≠ 8 → c k = a k) : zInv c := by
  obtain ⟨z1, z2, z3, z4, z5, z6, z7⟩ := h
  obtain ⟨b1, b2, b3, b4⟩ := xIx_b hx
  refine ⟨?_, hf, zLn_e z3 b2 (he _ (by omega) (by omega)) (he _ (by omega) (by omega)) (fun p hp => he _ (by omega) (by omega)) (fun k hk => he _ (by omega) (by omega)), zSz_e z4 b2 (he _ (by omega) (by omega)) (fun k hk => he _ (by omega) (by omega)), zMs_e z5 (he _ (by omega) (by omega)) (he _ (by omega) (by omega)) (he _ (by omega) (by omega)) (zNeed_e (by omega) (he _ (by omega) (by omega)) (fun k hk => he _ (by omega) (by omega))), zAk_e z6 (he _ (by omega) (by omega)) (he _ (by omega) (by omega)) (he _ (by omega) (by omega)) (fun k hk => he _ (by omega) (by omega)), zPt_e z7 b4 (he _ (by omega) (by omega)) (Nat.le_of_eq (mWr_e (he _ (by omega) (by omega))).symm) (fun k h1 h2 => he _ (by omega) (by omega))⟩
  show ∃ r, 4 ≤ r ∧ r ≤ 20 ∧ c 0 = nI r
  rw [he 0 (by omega) (by omega)]
  exact z1
theorem mPull_ne {c k : Nat} (hc : c < 3) (h : ¬ (4 ≤ k ∧ k < 7)) (h8 : k ≠ 8) : mPull a c k = a k := by
  unfold mPull
  rw [upd_ne _ _ h8, upd_ne _ _ (by omega)]
theorem zInv_pull {c : Nat} (h : zInv a) (hx : xIx a) (hc : c < 3) : zInv (mPull a c) := zInv_fr h hx (zFr_pull h.2.1 hc) (fun k h1 h2 => mPull_ne hc h1 h2)
theorem zFr_bring {p : Nat} (h : zFr a) (hp : p < 6) : zFr (mBring a p) := by
  unfold mBring
  split
  · exact h
  · exact zFr_pull h (by omega)
theorem mBring_ne {p k : Nat} (hp : p < 6) (h : ¬ (4 ≤ k ∧ k < 7)) (h8 : k ≠ 8) : mBring a p k = a k := by
  unfold mBring
  split
  · rfl
  · exact mPull_ne (by omega) h h8
/-- the panel that is brought to the front is in front -/
theorem mBring_at {p : Nat} (h : zFr a) (hp : p < 6) : mBring a p (4 + p / 2) = nI p := by
  unfold mBring
  by_cases hf : mFront a p = true
  · rw [if_pos hf]
    unfold mFront at hf
    exact of_decide_eq_true hf
  · rw [if_neg hf]
    have hn : ¬ a (4 + p / 2) = nI p := fun q => hf (by unfold mFront; exact decide_eq_true q)
    unfold mPull
    rw [upd_ne _ _ (by omega), upd_same]
    have hd := fr_x (p / 2) (by omega)
    rcases h (p / 2) (by omega) with q | q
    · rw [q] at hn ⊢
      rw [hd.1]
      have : p = 2 * (p / 2) + 1 := by
        by_cases e : p = 2 * (p / 2)
        · rw [← e] at hn; exact absurd rfl hn
        · omega
      rw [← this]
    · rw [q] at hn ⊢
      rw [hd.2]
      have : p = 2 * (p / 2) := by
        by_cases e : p = 2 * (p / 2) + 1
        · rw [← e] at hn; exact absurd rfl hn
        · omega
      rw [← this]
theorem mFront_at {p : Nat} (h : a (4 + p / 2) = nI p) : mFront a p = true := by unfold mFront; exact decide_eq_true h
/-- how many pulls bring it to the front -/
theorem mBring_8 {p : Nat} : mBring a p 8 = a 8 + (if mFront a p = true then 0 else 1) := by
  unfold mBring
  by_cases hf : mFront a p = true
  · rw [if_pos hf, if_pos hf, Int32.add_zero]
  · rw [if_neg hf, if_neg hf]
    unfold mPull
    rw [upd_same]
theorem zInv_ask0 {c : Nat → Int32} {s i : Nat} (h : zInv a) (hx : xIx a) (hs : s < 30) (hi : i = 14 ∨ i = 15 ∨ i = 16) (h1 : c (169 + s) = a (169 + s) + 1) (h2 : c i = a i + 1) (hf : zFr c) (he : ∀ k, k ≠ 169 + s → k ≠ i → ¬ (4 ≤ k ∧ k < 7) → k ≠ 8 → c k = a k) : zInv c := by
  obtain ⟨z1, z2, z3, z4, z5, z6, z7⟩ := h
  obtain ⟨b1, b2, b3, b4⟩ := xIx_b hx
  have e : ∀ k, (k < 4 ∨ (9 ≤ k ∧ k < 14) ∨ (17 ≤ k ∧ k < 169)) → c k = a k := fun k hk => he k (by omega) (by omega) (by omega) (by omega)
  refine ⟨?_, hf, zLn_e z3 b2 (e _ (by omega)) (e _ (by omega)) (fun p hp => e _ (by omega)) (fun k hk => e _ (by omega)), zSz_e z4 b2 (e _ (by omega)) (fun k hk => e _ (by omega)), zMs_e z5 (e _ (by omega)) (e _ (by omega)) (e _ (by omega)) (zNeed_e (by omega) (e _ (by omega)) (fun k hk => e _ (by omega))), ?_, zPt_e z7 b4 (e _ (by omega)) (Nat.le_of_eq (mWr_e (e _ (by omega))).symm) (fun k h1 h2 => e _ (by omega))⟩
  · show ∃ r, 4 ≤ r ∧ r ≤ 20 ∧ c 0 = nI r
    rw [e 0 (by omega)]
    exact z1
  · unfold zAk
    rw [xi_at (f := fun k => a (169 + k)) (g := fun k => c (169 + k)) (s := s) (d := 1) h1 (fun k hk => by
      by_cases hk2 : 169 + k = i
      · omega
      · exact he _ (by omega) hk2 (by omega) (by omega)) 30 hs, z6]
    rcases hi with rfl | rfl | rfl
    · rw [h2, he 15 (by omega) (by omega) (by omega) (by omega), he 16 (by omega) (by omega) (by omega) (by omega)]; ac_rfl
    · rw [h2, he 14 (by omega) (by omega) (by omega) (by omega), he 16 (by omega) (by omega) (by omega) (by omega)]; ac_rfl
    · rw [h2, he 14 (by omega) (by omega) (by omega) (by omega), he 15 (by omega) (by omega) (by omega) (by omega)]; ac_rfl
end ZP
