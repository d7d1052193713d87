/-! the rest of the lecture, foreseen -/
theorem i_canc {x : Int32} {a b : Nat} (ha : a < 2 ^ 31) (hb : b < 2 ^ 31) (h : x + nI a = x + nI b) : a = b := by
  have := congrArg (fun z => z - x) h
  simp only [i_add_sub] at this
  exact (nI_eq ha hb).mp this
theorem zrun : ∀ (n : Nat) (a : Nat → Int32) (x : Int32), zInv a → xInv a → ∃ W D V H P : Nat, (mRun n a x).1 2 = a 2 + nI W ∧ (mRun n a x).1 8 = a 8 + nI D ∧ (mRun n a x).1 9 = a 9 + nI V ∧ (mRun n a x).1 11 = a 11 + nI H ∧ (mRun n a x).2 = x + nI P ∧ P ≤ V ∧ V ≤ W ∧ W ≤ n ∧ W ≤ mSt a - mWr a ∧ D ≤ 31 * W ∧ H ≤ 30 * W ∧ ((mGo a).isSome = true → 0 < n → 0 < W) ∧ (mGo a = none → W = 0)
  | 0, a, x, _, _ => ⟨0, 0, 0, 0, 0, (Int32.add_zero _).symm, (Int32.add_zero _).symm, (Int32.add_zero _).symm, (Int32.add_zero _).symm, (Int32.add_zero _).symm, by omega, by omega, by omega, by omega, by omega, by omega, fun _ h => absurd h (Nat.lt_irrefl _), fun _ => rfl⟩
  | n + 1, a, x, hz, hI => by
    cases hg : mGo a with
    | none =>
      rw [mRun_none hg]
      exact ⟨0, 0, 0, 0, 0, (Int32.add_zero _).symm, (Int32.add_zero _).symm, (Int32.add_zero _).symm, (Int32.add_zero _).symm, (Int32.add_zero _).symm, by omega, by omega, by omega, by omega, by omega, by omega, fun h _ => by simp at h, fun _ => rfl⟩
    | some p =>
      rw [mRun_some hg]
      obtain ⟨b1, b2, b3, b4⟩ := xIx_b hI.1
      obtain ⟨g1, g2, g3, g4⟩ := mGo_at hI.1 hg
      obtain ⟨w1, w2, x1, x2, x3, x4, w3, w4, w5, w6, w7, w8⟩ := zw hz hI hg
      obtain ⟨jx, e1, e2, e3, e4⟩ := mWrite_ix hI.1 g1 g2
      have hb := zc_le (bt (a (139 + mWr a))) 30
      obtain ⟨W, D, V, H, P, r1, r2, r3, r4, r5, r6, r7, r8, r9, r10, r11, -, -⟩ := zrun n (mWrite a p) (if p ≠ mUs a ∧ ¬ a (17 + p) &&& (mPh a ^^^ (-1)) = 0 then x + 1 else x) (zInv_write hz hI hg) (mWrite_inv hI g1 g2)
      rw [e1, e2] at r9
      have q9 : mWrite a p 9 = a 9 + nI (if p ≠ mUs a then 1 else 0) := by
        rw [mWrite_9 g1]
        split
        · rfl
        · exact (Int32.add_zero _).symm
      have qx : (if p ≠ mUs a ∧ ¬ a (17 + p) &&& (mPh a ^^^ (-1)) = 0 then x + 1 else x) = x + nI (if p ≠ mUs a ∧ ¬ a (17 + p) &&& (mPh a ^^^ (-1)) = 0 then 1 else 0) := by
        split
        · rfl
        · exact (Int32.add_zero _).symm
      have hv : (if p ≠ mUs a ∧ ¬ a (17 + p) &&& (mPh a ^^^ (-1)) = 0 then 1 else 0) ≤ (if p ≠ mUs a then 1 else 0) ∧ (if p ≠ mUs a then 1 else 0) ≤ 1 := by
        by_cases c1 : p ≠ mUs a
        · rw [if_pos c1]
          split <;> omega
        · rw [if_neg c1, if_neg (fun z => c1 z.1)]
          omega
      generalize (if p ≠ mUs a ∧ ¬ a (17 + p) &&& (mPh a ^^^ (-1)) = 0 then (1 : Nat) else 0) = P1 at qx hv
      generalize (if p ≠ mUs a then (1 : Nat) else 0) = V1 at q9 hv
      rw [qx] at r1 r2 r3 r4 r5 ⊢
      refine ⟨1 + W, x4 + D, V1 + V, x1 + H, P1 + P, ?_, ?_, ?_, ?_, ?_, by omega, by omega, by omega, by omega, by omega, by omega, fun _ _ => by omega, fun h => by cases h⟩
      · rw [r1, mWrite_2 g1, ← nI_add]; exact Int32.add_assoc _ _ _
      · rw [r2, w6, ← nI_add]; exact Int32.add_assoc _ _ _
      · rw [r3, q9, ← nI_add]; exact Int32.add_assoc _ _ _
      · rw [r4, w3, ← nI_add]; exact Int32.add_assoc _ _ _
      · rw [r5, ← nI_add]; exact Int32.add_assoc _ _ _
theorem mRun_stop : ∀ (n : Nat) (a : Nat → Int32) (x y : Int32), xInv a → mSt a - mWr a ≤ n → (mRun (n + 1) a x).1 = (mRun n a y).1
  | 0, a, x, y, hI, h => by
    cases hg : mGo a with
    | none => rw [mRun_none hg]; rfl
    | some p => have := (mGo_at hI.1 hg).2.1; omega
  | n + 1, a, x, y, hI, h => by
    cases hg : mGo a with
    | none => rw [mRun_none hg, mRun_none hg]
    | some p =>
      obtain ⟨g1, g2, g3, g4⟩ := mGo_at hI.1 hg
      obtain ⟨jx, e1, e2, e3, e4⟩ := mWrite_ix hI.1 g1 g2
      rw [mRun_some hg, mRun_some hg]
      exact mRun_stop n _ _ _ (mWrite_inv hI g1 g2) (by rw [e1, e2]; omega)
/-- what is foreseen goes on as foreseen behind one step -/
theorem mRun_step {a : Nat → Int32} {p : Nat} (hI : xInv a) (hg : mGo a = some p) : (mRun 30 (mWrite a p) 0).1 = (mRun 30 a 0).1 := by
  obtain ⟨b1, b2, b3, b4⟩ := xIx_b hI.1
  obtain ⟨g1, g2, g3, g4⟩ := mGo_at hI.1 hg
  obtain ⟨jx, e1, e2, e3, e4⟩ := mWrite_ix hI.1 g1 g2
  rw [show (30 : Nat) = 29 + 1 by rfl, mRun_some hg]
  exact mRun_stop 29 _ _ _ (mWrite_inv hI g1 g2) (by rw [e1, e2]; omega)
/-- the numbers of wouldBe and photosNeeded -/
def zFor (a : Nat → Int32) (W D V H P : Nat) : Prop := (mRun 30 a 0).1 2 - a 2 = nI W ∧ (mRun 30 a 0).1 8 - a 8 = nI D ∧ (mRun 30 a 0).1 9 - a 9 = nI V ∧ (mRun 30 a 0).1 11 - a 11 = nI H ∧ (mRun 30 a 0).2 = nI P ∧ P ≤ V ∧ V ≤ W ∧ W ≤ 30 ∧ W ≤ mSt a - mWr a ∧ D ≤ 31 * W ∧ H ≤ 30 * W ∧ (W = 0 ↔ mGo a = none) ∧ a 8 + nI D = (mRun 30 a 0).1 8
theorem zFor_at {a : Nat → Int32} (hz : zInv a) (hI : xInv a) : ∃ W D V H P, zFor a W D V H P := by
  obtain ⟨W, D, V, H, P, r1, r2, r3, r4, r5, r6, r7, r8, r9, r10, r11, r12, r13⟩ := zrun 30 a 0 hz hI
  refine ⟨W, D, V, H, P, by rw [r1, i_add_sub], by rw [r2, i_add_sub], by rw [r3, i_add_sub], by rw [r4, i_add_sub], by rw [r5, Int32.zero_add], r6, r7, r8, r9, r10, r11, ⟨fun h => ?_, r13⟩, r2.symm⟩
  cases hg : mGo a with
  | none => rfl
  | some p => have := r12 (by rw [hg]; rfl) (by omega); omega
theorem zFor_step {a : Nat → Int32} {p W D V H P W2 D2 V2 H2 P2 : Nat} (hI : xInv a) (hg : mGo a = some p) (h : zFor a W D V H P) (h2 : zFor (mWrite a p) W2 D2 V2 H2 P2) : W = W2 + 1 ∧ mWrite a p 8 + nI D2 = a 8 + nI D := by
  obtain ⟨g1, g2, g3, g4⟩ := mGo_at hI.1 hg
  obtain ⟨r1, r2, r3, r4, r5, r6, r7, r8, r9, r10, r11, r12, r13⟩ := h
  obtain ⟨s1, s2, s3, s4, s5, s6, s7, s8, s9, s10, s11, s12, s13⟩ := h2
  rw [mRun_step hI hg] at s1 s2 s13
  refine ⟨?_, by rw [s13, r13]⟩
  rw [mWrite_2 g1] at s1
  have e1 : (mRun 30 a 0).1 2 = a 2 + nI W := by rw [← r1, Int32.add_comm, Int32.sub_add_cancel]
  have e2 : (mRun 30 a 0).1 2 = a 2 + nI (1 + W2) := by rw [← nI_add, ← s1, ← Int32.add_assoc, Int32.add_comm]; exact (Int32.sub_add_cancel _ (a 2 + 1)).symm
  have := i_canc (by omega) (by omega) (e1.symm.trans e2)
  omega
