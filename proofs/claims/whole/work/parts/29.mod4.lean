def MAct (σ τ : XSt) (a : Nat → Int32) (hl : List (Nat → Int32)) (sn : Option (Nat → Int32)) (t : Nat → Int32) (L : Nat) (q : Option (Nat → Int32)) : Prop := (match q with
  | none => MRel τ a hl sn t L
  | some c => MRel τ c (hpush hl a) sn t L) ∧ ∀ k, 8 ≤ k → τ k = σ k
theorem MAct_none {σ : XSt} {a : Nat → Int32} {hl : List (Nat → Int32)} {sn : Option (Nat → Int32)} {t : Nat → Int32} {L : Nat} (h : MRel σ a hl sn t L) : MAct σ (su σ 1 a) a hl sn t L none := ⟨MRel_1 h, fun k hk => su_ne _ _ (by omega)⟩
theorem MAct_some {σ τ : XSt} {a c e : Nat → Int32} {hl : List (Nat → Int32)} {sn : Option (Nat → Int32)} {t : Nat → Int32} {L : Nat} (h : MRel τ c (hpush hl a) sn t L) (hf : ∀ k, 8 ≤ k → τ k = su (su σ 2 a) 1 e k) : MAct σ τ a hl sn t L (some c) := ⟨h, fun k hk => by rw [hf k hk, su_ne _ _ (by omega), su_ne _ _ (by omega)]⟩
theorem x_mpanel {x : Int32} (h : ¬ (if x < 0 ∨ 6 ≤ x then (0 : Int32) else 1) = 0) : ∃ p, p < 6 ∧ x = nI p ∧ ¬ (x < 0 ∨ 6 ≤ x) ∧ x.toNatClampNeg = p := by
  by_cases c : x < 0 ∨ 6 ≤ x
  · rw [if_pos c] at h; exact absurd rfl h
  · obtain ⟨j, hj, rfl⟩ := nI_of (fun q => c (Or.inl q))
    have hj6 : j < 6 := by
      rcases Nat.lt_or_ge j 6 with q | q
      · exact q
      · exact absurd (Or.inr (show nI 6 ≤ nI j from nI_le q hj)) c
    exact ⟨j, hj6, rfl, c, nI_clamp hj⟩
theorem x_mnpanel {x : Int32} (h : (if x < 0 ∨ 6 ≤ x then (0 : Int32) else 1) = 0) : x < 0 ∨ 6 ≤ x := by
  by_cases c : x < 0 ∨ 6 ≤ x
  · exact c
  · rw [if_neg c] at h; exact absurd h (by decide)
theorem full_ge {a : Nat → Int32} {x : Int32} (hx : 4 ≤ x) : x < mFull a ↔ ∃ p, p < 6 ∧ x < mLines a p := by
  have key : ∀ n i (acc : Int32), (x < xit (fun p acc => if acc < mLines a p then mLines a p else acc) n i acc) ↔ (x < acc ∨ ∃ p, i ≤ p ∧ p < i + n ∧ x < mLines a p) := by
    intro n
    induction n with
    | zero =>
      intro i acc
      constructor
      · intro h; exact Or.inl h
      · rintro (h | ⟨p, h1, h2, -⟩)
        · exact h
        · omega
    | succ n ih =>
      intro i acc
      rw [xit_succ, ih]
      constructor
      · rintro (h | ⟨p, h1, h2, h3⟩)
        · by_cases c : acc < mLines a i
          · rw [if_pos c] at h; exact Or.inr ⟨i, Nat.le_refl _, by omega, h⟩
          · rw [if_neg c] at h; exact Or.inl h
        · exact Or.inr ⟨p, by omega, by omega, h3⟩
      · rintro (h | ⟨p, h1, h2, h3⟩)
        · refine Or.inl ?_
          by_cases c : acc < mLines a i
          · rw [if_pos c]; exact Int32.lt_trans h c
          · rw [if_neg c]; exact h
        · by_cases e : p = i
          · subst e
            refine Or.inl ?_
            by_cases c : acc < mLines a p
            · rw [if_pos c]; exact h3
            · rw [if_neg c]; exact Int32.lt_of_lt_of_le h3 (Int32.not_lt.mp c)
          · exact Or.inr ⟨p, by omega, by omega, h3⟩
  unfold mFull
  rw [key]
  constructor
  · rintro (h | ⟨p, -, h2, h3⟩)
    · exact absurd (Int32.lt_of_le_of_lt hx h) (by decide)
    · exact ⟨p, by omega, h3⟩
  · rintro ⟨p, h1, h2⟩
    exact Or.inr ⟨p, Nat.zero_le _, by omega, h2⟩
theorem upd_comm (f : Nat → Int32) {k c : Nat} (x y : Int32) (h : k ≠ c) : upd (upd f k x) c y = upd (upd f c y) k x := by
  funext j
  unfold upd
  by_cases h1 : j = c <;> by_cases h2 : j = k <;> simp_all
theorem lp_X9_setRoom {E : XEnv} {d : Nat} {σ : XSt} {a : Nat → Int32} {Q : Int32 → XSt → Prop} {w : XO} {x : Int32} (hG : xGl E) (hI : xIx a) (cx : CX (d + 1) w E mX9_setRoom) (cz : CZi w E Q) (hn : (∃ p, p < 6 ∧ x < mLines a p) → Q (-4) (su σ 1 a)) (hk : (∀ p, p < 6 → ¬ x < mLines a p) → XG w E 43 [some (.ref (xad E 0)), some (.int x), some (.int (nI 6))] [] (su σ 1 a)) : ∀ n i, i + n = 6 → (∀ p, p < i → ¬ x < mLines a p) → XG w E 19 [some (.ref (xad E 0)), some (.int x), some (.int (nI i))] [] (su σ 1 a) := by
  have g0 := hG.1
  have g1 := hG.2.1
  have g2 := hG.2.2.1
  have g3 := hG.2.2.2.1
  have g4 := hG.2.2.2.2.1
  have g5 := hG.2.2.2.2.2.1
  have g6 := hG.2.2.2.2.2.2.1
  have g7 := hG.2.2.2.2.2.2.2.1
  intro n
  induction n with
  | zero =>
    intro i hi hj
    obtain rfl : i = 6 := by omega
    refine xr_iload_2 cx dX9_setRoom_19 ?_
    refine xr_bipush (v := 6) cx dX9_setRoom_20 (by decide) ?_
    refine xr_icmp_ge (tgt := 43) cx dX9_setRoom_22 (by decide) (fun cq22 => ?_) (fun cq22 => ?_)
    · exact hk (fun p hp => hj p hp)
    · exact absurd (nI_le (a := 6) (b := 6) (by decide) (by decide)) cq22
  | succ n ih =>
    intro i hi hj
    refine xr_iload_2 cx dX9_setRoom_19 ?_
    refine xr_bipush (v := 6) cx dX9_setRoom_20 (by decide) ?_
    refine xr_icmp_ge (tgt := 43) cx dX9_setRoom_22 (by decide) (fun cq22 => ?_) (fun cq22 => ?_)
    · exact absurd cq22 (nI_ge (a := i) (b := 6) (by omega) (by decide))
    · refine xr_aload_0 cx dX9_setRoom_25 ?_
      refine xr_iload_2 cx dX9_setRoom_26 ?_
      refine xr_V1i (ν := mX9_linesOn) cx dX9_setRoom_27 rfl ml_X9_45 vf_X9_linesOn g0 (Nat.le_of_ble_eq_true rfl) (m_X9_linesOn hG (show i < 6 by omega) hI ?_)
      refine xr_iload_1 cx dX9_setRoom_30 ?_
      refine xr_icmp_le (tgt := 37) cx dX9_setRoom_31 (by decide) (fun cq31 => ?_) (fun cq31 => ?_)
      · refine xr_iinc_2 (y := 1) cx dX9_setRoom_37 (by decide) ?_
        refine xr_goto (tgt := 19) cx dX9_setRoom_40 (by decide) ?_
        rw [nI_1]
        exact ih (i + 1) (by omega) (fun p hp => by
          by_cases e : p = i
          · subst e; exact fun q => Int32.not_le.mpr q cq31
          · exact hj p (by omega))
      · refine xr_bipush (v := -4) cx dX9_setRoom_34 (by decide) ?_
        refine xr_iret cx cz dX9_setRoom_36 rfl ?_
        exact hn ⟨i, by omega, Int32.not_le.mp cq31⟩
theorem m_X9_setRoom {l : Launch} {E : XEnv} {d : Nat} {σ : XSt} {a : Nat → Int32} {Q : Int32 → XSt → Prop} (hG : xGl E) {x : Int32} {hl : List (Nat → Int32)} {sn : Option (Nat → Int32)} {t : Nat → Int32} {L : Nat} (hM : MRel σ a hl sn t L) (hI : xInv a)  (h : ∀ τ, MAct σ τ a hl sn t L (oRoom a x).2 → Q (oRoom a x).1 τ) : XMi l E (d + 4) mX9_setRoom [.ref (xad E 0), .int x] σ Q := by
  have g0 := hG.1
  have g1 := hG.2.1
  have g2 := hG.2.2.1
  have g3 := hG.2.2.2.1
  have g4 := hG.2.2.2.2.1
  have g5 := hG.2.2.2.2.2.1
  have g6 := hG.2.2.2.2.2.2.1
  have g7 := hG.2.2.2.2.2.2.2.1
  have hS : su σ 1 a = σ := by rw [← hM.1]; exact su_id σ 1
  obtain ⟨hx, hO, hN, hD, hW, hE, hA⟩ := id hI
  obtain ⟨ix1, ix2, ix3, ix4, iy1, iy2, iy3, iy4⟩ := id hx
  rw [← hS]
  refine xr_entry (lv := [some (.ref (xad E 0)), some (.int x), none]) (by decide +kernel) (by simp [Value.category]) (Nat.le_of_ble_eq_true rfl) rfl (fun w hw cx cz => ?_)
  subst hw
  refine xr_iload_1 cx dX9_setRoom_0 ?_
  refine xr_i2l cx dX9_setRoom_1 ?_
  refine xr_ldc2 cx dX9_setRoom_2 kc_X9_75 ?_
  refine xr_ldc2 cx dX9_setRoom_5 kc_X9_77 ?_
  refine xr_S3i (ν := mX9_in) cx dX9_setRoom_8 rfl ml_X9_37 sf_X9_in (Nat.le_of_ble_eq_true rfl) (m_X9_in ?_)
  refine xr_if_ne (tgt := 17) cx dX9_setRoom_11 (by decide) (fun cq11 => ?_) (fun cq11 => ?_)
  · have hb : ¬ (x.toInt64 < 4 ∨ (20 : Int64) < x.toInt64) := fun q => by rw [if_pos q] at cq11; exact cq11 rfl
    have hb2 : ¬ (x < 4 ∨ 20 < x) := fun q => hb ((x64_in (a := 4) (b := 20)).mpr q)
    unfold oRoom at h
    rw [if_neg hb2] at h
    refine xr_iconst (v := 0) cx dX9_setRoom_17 (by decide) ?_
    refine xr_istore_2 cx dX9_setRoom_18 ?_
    refine lp_X9_setRoom hG hx cx cz (fun q => ?_) (fun q => ?_) 6 0 rfl (fun p hp => absurd hp (Nat.not_lt_zero p))
    · rw [if_pos ((full_ge (Int32.not_lt.mp (fun z => hb2 (Or.inl z)))).mpr q)] at h
      exact h _ (MAct_none hM)
    · rw [if_neg (fun z => by obtain ⟨p, z1, z2⟩ := (full_ge (Int32.not_lt.mp (fun z => hb2 (Or.inl z)))).mp z; exact q p z1 z2)] at h
      refine xr_aload_0 cx dX9_setRoom_43 ?_
      refine xr_getR cx dX9_setRoom_44 fl_X9_7 g0 rfl ?_
      refine xr_iconst (v := 0) cx dX9_setRoom_47 (by decide) ?_
      refine xr_ialdN (j := 0) cx dX9_setRoom_48 g1 rfl (by decide) (by decide) ?_
      rw [su_same]
      refine xr_iload_1 cx dX9_setRoom_49 ?_
      refine xr_icmp_ne (tgt := 56) cx dX9_setRoom_50 (by decide) (fun cq50 => ?_) (fun cq50 => ?_)
      · rw [if_neg cq50] at h
        refine xr_aload_0 cx dX9_setRoom_56 ?_
        refine xr_V0v (ν := mX9_remember) cx dX9_setRoom_57 rfl ml_X9_79 vf_X9_remember g0 (Nat.le_of_ble_eq_true rfl) (m_X9_remember hG ?_)
        rw [su_same, su_comm σ a a (by decide)]
        refine xr_aload_0 cx dX9_setRoom_60 ?_
        refine xr_getR cx dX9_setRoom_61 fl_X9_7 g0 rfl ?_
        refine xr_iconst (v := 0) cx dX9_setRoom_64 (by decide) ?_
        refine xr_ialdN (j := 0) cx dX9_setRoom_65 g1 rfl (by decide) (by decide) ?_
        rw [su_same]
        refine xr_istore_2 cx dX9_setRoom_66 ?_
        refine xr_aload_0 cx dX9_setRoom_67 ?_
        refine xr_getR cx dX9_setRoom_68 fl_X9_7 g0 rfl ?_
        refine xr_iconst (v := 0) cx dX9_setRoom_71 (by decide) ?_
        refine xr_iload_1 cx dX9_setRoom_72 ?_
        refine xr_iastN (j := 0) cx dX9_setRoom_73 g1 rfl (by decide) (by decide) ?_
        rw [su_same, su_su]
        refine xr_aload_0 cx dX9_setRoom_74 ?_
        refine xr_iload_2 cx dX9_setRoom_75 ?_
        refine xr_V1i (ν := mX9_acted) cx dX9_setRoom_76 rfl ml_X9_82 vf_X9_acted g0 (Nat.le_of_ble_eq_true rfl) (m_X9_acted hG (MRel_1 (MRel_2 hM)) (by rw [su_ne _ _ (by decide), su_same]) (fun τ r1 r2 => ?_))
        refine xr_iret cx cz dX9_setRoom_79 rfl ?_
        exact h τ (MAct_some r1 r2)
      · refine xr_bipush (v := -5) cx dX9_setRoom_53 (by decide) ?_
        refine xr_iret cx cz dX9_setRoom_55 rfl ?_
        rw [if_pos cq50] at h
        exact h _ (MAct_none hM)
  · have hb : x.toInt64 < 4 ∨ (20 : Int64) < x.toInt64 := by by_cases q : x.toInt64 < 4 ∨ (20 : Int64) < x.toInt64; exact q; rw [if_neg q] at cq11; exact absurd cq11 (by decide)
    unfold oRoom at h
    rw [if_pos ((x64_in (a := 4) (b := 20)).mp hb)] at h
    refine xr_bipush (v := -2) cx dX9_setRoom_14 (by decide) ?_
    refine xr_iret cx cz dX9_setRoom_16 rfl ?_
    exact h _ (MAct_none hM)
theorem l_pow : ∀ n, n < 31 → ((1 : Int64) <<< ((nI n).toInt64 &&& 63) - 1).toInt = 2 ^ n - 1 := by decide +kernel
theorem x_shr0 {y : Int32} {n : Nat} (hn : n ≤ 30) : (y.toUInt32 >>> ((nI n).toUInt32 &&& Int32.toUInt32 31)).toInt32 = 0 ↔ (0 ≤ y.toInt ∧ y.toInt < 2 ^ n) := by
  have h1 := pk_ushr y (nI n) n (by have := (by decide +kernel : ∀ n, n < 31 → ((((nI n).toUInt32 &&& Int32.toUInt32 31).toBitVec % 32).toNat = n)); exact this n (by omega))
  have h2 : (y.toUInt32 >>> ((nI n).toUInt32 &&& Int32.toUInt32 31)).toInt32 = 0 ↔ y.toBitVec.toNat / 2 ^ n = 0 := by
    constructor
    · intro h; rw [h] at h1; rw [← h1]; rfl
    · intro h; rw [h] at h1; exact Int32.toBitVec_inj.mp (BitVec.eq_of_toNat_eq (by rw [h1]; rfl))
  rw [h2]
  have hp : 0 < 2 ^ n := Nat.two_pow_pos n
  have hle : 2 ^ n ≤ 2 ^ 30 := Nat.pow_le_pow_right (by decide) hn
  have hy : y.toInt = if 2 * y.toBitVec.toNat < 2 ^ 32 then (y.toBitVec.toNat : Int) else (y.toBitVec.toNat : Int) - (2 ^ 32 : Nat) := BitVec.toInt_eq_toNat_cond y.toBitVec
  have hlt := y.toBitVec.isLt
  rw [Nat.div_eq_zero_iff]
  have hc : ((2 : Int) ^ n) = ((2 ^ n : Nat) : Int) := by simp
  rw [hc]
  generalize 2 ^ n = m at *
  split at hy
  · constructor
    · rintro (h | h) <;> omega
    · intro h; exact Or.inr (by omega)
  · constructor
    · rintro (h | h) <;> omega
    · intro h; omega
theorem x64_needs {y : Int32} {n : Nat} (hn : n ≤ 30) : (y.toInt64 < 0 ∨ (1 : Int64) <<< ((nI n).toInt64 &&& 63) - 1 < y.toInt64) ↔ ¬ (y.toUInt32 >>> ((nI n).toUInt32 &&& Int32.toUInt32 31)).toInt32 = 0 := by
  rw [x_shr0 hn, Int64.lt_iff_toInt_lt, Int64.lt_iff_toInt_lt, l_pow n (by omega), Int32.toInt_toInt64, Int64.toInt_zero]
  generalize (2 : Int) ^ n = m
  constructor
  · rintro (h | h) <;> omega
  · intro h
    by_cases c : y.toInt < 0
    · exact Or.inl c
    · exact Or.inr (by omega)
theorem m_X9_plan {l : Launch} {E : XEnv} {d : Nat} {σ : XSt} {a : Nat → Int32} {Q : Int32 → XSt → Prop} (hG : xGl E) {x y : Int32} {hl : List (Nat → Int32)} {sn : Option (Nat → Int32)} {t : Nat → Int32} {L : Nat} (hM : MRel σ a hl sn t L) (hI : xInv a)  (h : ∀ τ, MAct σ τ a hl sn t L (oPlan a x y).2 → Q (oPlan a x y).1 τ) : XMi l E (d + 4) mX9_plan [.ref (xad E 0), .int x, .int y] σ Q := by
  have g0 := hG.1
  have g1 := hG.2.1
  have g2 := hG.2.2.1
  have g3 := hG.2.2.2.1
  have g4 := hG.2.2.2.2.1
  have g5 := hG.2.2.2.2.2.1
  have g6 := hG.2.2.2.2.2.2.1
  have g7 := hG.2.2.2.2.2.2.2.1
  have hS : su σ 1 a = σ := by rw [← hM.1]; exact su_id σ 1
  obtain ⟨hx, hO, hN, hD, hW, hE, hA⟩ := id hI
  obtain ⟨ix1, ix2, ix3, ix4, iy1, iy2, iy3, iy4⟩ := id hx
  rw [← hS]
  refine xr_entry (lv := [some (.ref (xad E 0)), some (.int x), some (.int y)]) (by decide +kernel) (by simp [Value.category]) (Nat.le_of_ble_eq_true rfl) rfl (fun w hw cx cz => ?_)
  subst hw
  refine xr_iload_1 cx dX9_plan_0 ?_
  refine xr_i2l cx dX9_plan_1 ?_
  refine xr_lconst (v := 1) cx dX9_plan_2 (by decide) ?_
  refine xr_ldc2 cx dX9_plan_3 kc_X9_75 ?_
  refine xr_S3i (ν := mX9_in) cx dX9_plan_6 rfl ml_X9_37 sf_X9_in (Nat.le_of_ble_eq_true rfl) (m_X9_in ?_)
  refine xr_if_eq (tgt := 31) cx dX9_plan_9 (by decide) (fun cq9 => ?_) (fun cq9 => ?_)
  · have hb : x.toInt64 < 1 ∨ (4 : Int64) < x.toInt64 := by by_cases q : x.toInt64 < 1 ∨ (4 : Int64) < x.toInt64; exact q; rw [if_neg q] at cq9; exact absurd cq9 (by decide)
    have hb2 := (x64_in (a := 1) (b := 4)).mp hb
    unfold oPlan at h
    rw [if_pos (by rcases hb2 with z | z; exact Or.inl z; exact Or.inr (Or.inl z))] at h
    refine xr_bipush (v := -2) cx dX9_plan_31 (by decide) ?_
    refine xr_iret cx cz dX9_plan_33 rfl ?_
    exact h _ (MAct_none hM)
  · have hb : ¬ (x.toInt64 < 1 ∨ (4 : Int64) < x.toInt64) := fun q => by rw [if_pos q] at cq9; exact cq9 rfl
    have hb2 : ¬ (x < 1 ∨ 4 < x) := fun q => hb ((x64_in (a := 1) (b := 4)).mpr q)
    refine xr_iload_2 cx dX9_plan_12 ?_
    refine xr_i2l cx dX9_plan_13 ?_
    refine xr_lconst (v := 0) cx dX9_plan_14 (by decide) ?_
    refine xr_lconst (v := 1) cx dX9_plan_15 (by decide) ?_
    refine xr_aload_0 cx dX9_plan_16 ?_
    refine xr_getR cx dX9_plan_17 fl_X9_7 g0 rfl ?_
    refine xr_iconst (v := 1) cx dX9_plan_20 (by decide) ?_
    refine xr_ialdN (j := 1) cx dX9_plan_21 g1 rfl (by decide) (by decide) ?_
    rw [su_same]
    rw [ix1]
    refine xr_lshl cx dX9_plan_22 ?_
    refine xr_lconst (v := 1) cx dX9_plan_23 (by decide) ?_
    refine xr_lsub cx dX9_plan_24 ?_
    refine xr_S3i (ν := mX9_in) cx dX9_plan_25 rfl ml_X9_37 sf_X9_in (Nat.le_of_ble_eq_true rfl) (m_X9_in ?_)
    refine xr_if_ne (tgt := 34) cx dX9_plan_28 (by decide) (fun cq28 => ?_) (fun cq28 => ?_)
    · have hc : ¬ (y.toInt64 < 0 ∨ (1 : Int64) <<< ((nI (mSt a)).toInt64 &&& 63) - 1 < y.toInt64) := fun q => by rw [if_pos q] at cq28; exact cq28 rfl
      have hc0 : (y.toUInt32 >>> ((a 1).toUInt32 &&& Int32.toUInt32 31)).toInt32 = 0 := by rw [ix1]; exact Classical.not_not.mp (fun q => hc ((x64_needs iy2).mpr q))
      unfold oPlan at h
      rw [if_neg (fun q => Or.elim q (fun q => hb2 (Or.inl q)) (fun q => Or.elim q (fun q => hb2 (Or.inr q)) (fun q => q hc0)))] at h
      refine xr_aload_0 cx dX9_plan_34 ?_
      refine xr_getR cx dX9_plan_35 fl_X9_7 g0 rfl ?_
      refine xr_iconst (v := 1) cx dX9_plan_38 (by decide) ?_
      refine xr_ialdN (j := 1) cx dX9_plan_39 g1 rfl (by decide) (by decide) ?_
      rw [su_same]
      refine xr_bipush (v := 30) cx dX9_plan_40 (by decide) ?_
      rw [ix1]
      refine xr_icmp_ne (tgt := 48) cx dX9_plan_42 (by decide) (fun cq42 => ?_) (fun cq42 => ?_)
      · have hn30 : mSt a < 30 := by
          have : mSt a ≠ 30 := fun q => cq42 (by rw [q]; rfl)
          omega
        rw [if_neg (by rw [ix1]; exact nI_ge (a := mSt a) (b := 30) hn30 (by decide))] at h
        refine xr_aload_0 cx dX9_plan_48 ?_
        refine xr_V0v (ν := mX9_remember) cx dX9_plan_49 rfl ml_X9_79 vf_X9_remember g0 (Nat.le_of_ble_eq_true rfl) (m_X9_remember hG ?_)
        rw [su_same, su_comm σ a a (by decide)]
        refine xr_aload_0 cx dX9_plan_52 ?_
        refine xr_iload_1 cx dX9_plan_53 ?_
        refine xr_iload_2 cx dX9_plan_54 ?_
        refine xr_V2v (ν := mX9_plans) cx dX9_plan_55 rfl ml_X9_85 vf_X9_plans g0 (Nat.le_of_ble_eq_true rfl) (m_X9_plans hG hI hn30 ?_)
        refine xr_aload_0 cx dX9_plan_58 ?_
        refine xr_aload_0 cx dX9_plan_59 ?_
        refine xr_getR cx dX9_plan_60 fl_X9_7 g0 rfl ?_
        refine xr_iconst (v := 1) cx dX9_plan_63 (by decide) ?_
        refine xr_ialdN (j := 1) cx dX9_plan_64 g1 rfl (by decide) (by decide) ?_
        rw [su_same]
        rw [show mPlan a x y 1 = a 1 + 1 from upd_same _ _ _]
        refine xr_iconst (v := 1) cx dX9_plan_65 (by decide) ?_
        refine xr_isub cx dX9_plan_66 ?_
        rw [show a 1 + 1 - 1 = a 1 by rw [ix1, nI_1]; exact nI_pred _]
        refine xr_V1i (ν := mX9_acted) cx dX9_plan_67 rfl ml_X9_82 vf_X9_acted g0 (Nat.le_of_ble_eq_true rfl) (m_X9_acted hG (MRel_1 (MRel_2 hM)) (by rw [su_ne _ _ (by decide), su_same]) (fun τ r1 r2 => ?_))
        refine xr_iret cx cz dX9_plan_70 rfl ?_
        exact h τ (MAct_some r1 r2)
      · rw [if_pos (by rw [ix1, show nI (mSt a) = 30 from cq42]; decide)] at h
        refine xr_bipush (v := -3) cx dX9_plan_45 (by decide) ?_
        refine xr_iret cx cz dX9_plan_47 rfl ?_
        exact h _ (MAct_none hM)
    · have hc : y.toInt64 < 0 ∨ (1 : Int64) <<< ((nI (mSt a)).toInt64 &&& 63) - 1 < y.toInt64 := by by_cases q : y.toInt64 < 0 ∨ (1 : Int64) <<< ((nI (mSt a)).toInt64 &&& 63) - 1 < y.toInt64; exact q; rw [if_neg q] at cq28; exact absurd cq28 (by decide)
      unfold oPlan at h
      rw [if_pos (Or.inr (Or.inr (by rw [ix1]; exact (x64_needs iy2).mp hc)))] at h
      refine xr_bipush (v := -2) cx dX9_plan_31 (by decide) ?_
      refine xr_iret cx cz dX9_plan_33 rfl ?_
      exact h _ (MAct_none hM)
theorem m_X9_write_n {l : Launch} {E : XEnv} {d : Nat} {σ : XSt} {a : Nat → Int32} {Q : Int32 → XSt → Prop} (hG : xGl E) (hg : mGo a = none) {hl : List (Nat → Int32)} {sn : Option (Nat → Int32)} {t : Nat → Int32} {L : Nat} (hM : MRel σ a hl sn t L) (hI : xInv a)  (h : ∀ τ, MAct σ τ a hl sn t L (oWrite a).2 → Q (oWrite a).1 τ) : XMi l E (d + 4) mX9_write [.ref (xad E 0)] σ Q := by
  have g0 := hG.1
  have g1 := hG.2.1
  have g2 := hG.2.2.1
  have g3 := hG.2.2.2.1
  have g4 := hG.2.2.2.2.1
  have g5 := hG.2.2.2.2.2.1
  have g6 := hG.2.2.2.2.2.2.1
  have g7 := hG.2.2.2.2.2.2.2.1
  have hS : su σ 1 a = σ := by rw [← hM.1]; exact su_id σ 1
  obtain ⟨hx, hO, hN, hD, hW, hE, hA⟩ := id hI
  obtain ⟨ix1, ix2, ix3, ix4, iy1, iy2, iy3, iy4⟩ := id hx
  rw [← hS]
  rw [oWrite_none hg] at h
  refine xr_entry (lv := [some (.ref (xad E 0))]) (by decide +kernel) (by simp [Value.category]) (Nat.le_of_ble_eq_true rfl) rfl (fun w hw cx cz => ?_)
  subst hw
  refine xr_aload_0 cx dX9_write_0 ?_
  refine xr_V0v (ν := mX9_remember) cx dX9_write_1 rfl ml_X9_79 vf_X9_remember g0 (Nat.le_of_ble_eq_true rfl) (m_X9_remember hG ?_)
  rw [su_same, su_comm σ a a (by decide)]
  refine xr_aload_0 cx dX9_write_4 ?_
  refine xr_V0i (ν := mX9_writes) cx dX9_write_5 rfl ml_X9_89 vf_X9_writes g0 (Nat.le_of_ble_eq_true rfl) (m_X9_writes_n hG hx hg ?_)
  refine xr_if_ne (tgt := 18) cx dX9_write_8 (by decide) (fun cq8 => ?_) (fun cq8 => ?_)
  · exact absurd rfl cq8
  · refine xr_aload_0 cx dX9_write_11 ?_
    refine xr_V0v (ν := mX9_giveBack) cx dX9_write_12 rfl ml_X9_93 vf_X9_giveBack g0 (Nat.le_of_ble_eq_true rfl) (m_X9_giveBack hG ?_)
    rw [su_su, su_ne _ _ (by decide), su_same]
    refine xr_bipush (v := -4) cx dX9_write_15 (by decide) ?_
    refine xr_iret cx cz dX9_write_17 rfl ?_
    exact h _ ⟨MRel_1 (MRel_2 hM), fun k hk => by rw [su_ne _ _ (by omega), su_ne _ _ (by omega)]⟩
theorem m_X9_write_s {l : Launch} {E : XEnv} {d : Nat} {σ : XSt} {a : Nat → Int32} {Q : Int32 → XSt → Prop} (hG : xGl E) {p : Nat} (hg : mGo a = some p) {hl : List (Nat → Int32)} {sn : Option (Nat → Int32)} {t : Nat → Int32} {L : Nat} (hM : MRel σ a hl sn t L) (hI : xInv a)  (h : ∀ τ, MAct σ τ a hl sn t L (oWrite a).2 → Q (oWrite a).1 τ) : XMi l E (d + 4) mX9_write [.ref (xad E 0)] σ Q := by
  have g0 := hG.1
  have g1 := hG.2.1
  have g2 := hG.2.2.1
  have g3 := hG.2.2.2.1
  have g4 := hG.2.2.2.2.1
  have g5 := hG.2.2.2.2.2.1
  have g6 := hG.2.2.2.2.2.2.1
  have g7 := hG.2.2.2.2.2.2.2.1
  have hS : su σ 1 a = σ := by rw [← hM.1]; exact su_id σ 1
  obtain ⟨hx, hO, hN, hD, hW, hE, hA⟩ := id hI
  obtain ⟨ix1, ix2, ix3, ix4, iy1, iy2, iy3, iy4⟩ := id hx
  rw [← hS]
  rw [oWrite_some hg] at h
  have hp6 := mNext_lt (mGo_some hg).2 iy3
  refine xr_entry (lv := [some (.ref (xad E 0))]) (by decide +kernel) (by simp [Value.category]) (Nat.le_of_ble_eq_true rfl) rfl (fun w hw cx cz => ?_)
  subst hw
  refine xr_aload_0 cx dX9_write_0 ?_
  refine xr_V0v (ν := mX9_remember) cx dX9_write_1 rfl ml_X9_79 vf_X9_remember g0 (Nat.le_of_ble_eq_true rfl) (m_X9_remember hG ?_)
  rw [su_same, su_comm σ a a (by decide)]
  refine xr_aload_0 cx dX9_write_4 ?_
  refine xr_V0i (ν := mX9_writes) cx dX9_write_5 rfl ml_X9_89 vf_X9_writes g0 (Nat.le_of_ble_eq_true rfl) (m_X9_writes_s hG hx hg ?_)
  refine xr_if_ne (tgt := 18) cx dX9_write_8 (by decide) (fun cq8 => ?_) (fun cq8 => ?_)
  · refine xr_aload_0 cx dX9_write_18 ?_
    refine xr_aload_0 cx dX9_write_19 ?_
    refine xr_getR cx dX9_write_20 fl_X9_7 g0 rfl ?_
    refine xr_iconst (v := 3) cx dX9_write_23 (by decide) ?_
    refine xr_ialdN (j := 3) cx dX9_write_24 g1 rfl (by decide) (by decide) ?_
    rw [su_same]
    rw [mWrite_3 hp6 ix3]
    refine xr_V1i (ν := mX9_acted) cx dX9_write_25 rfl ml_X9_82 vf_X9_acted g0 (Nat.le_of_ble_eq_true rfl) (m_X9_acted hG (MRel_1 (MRel_2 hM)) (by rw [su_ne _ _ (by decide), su_same]) (fun τ r1 r2 => ?_))
    refine xr_iret cx cz dX9_write_28 rfl ?_
    exact h τ (MAct_some r1 r2)
  · exact absurd cq8 (by decide)
theorem m_X9_write {l : Launch} {E : XEnv} {d : Nat} {σ : XSt} {a : Nat → Int32} {Q : Int32 → XSt → Prop} (hG : xGl E) {hl : List (Nat → Int32)} {sn : Option (Nat → Int32)} {t : Nat → Int32} {L : Nat} (hM : MRel σ a hl sn t L) (hI : xInv a) (h : ∀ τ, MAct σ τ a hl sn t L (oWrite a).2 → Q (oWrite a).1 τ) : XMi l E (d + 4) mX9_write [.ref (xad E 0)] σ Q := by
  cases hg : mGo a with
  | none => exact m_X9_write_n hG hg hM hI h
  | some p => exact m_X9_write_s hG hg hM hI h
theorem m_X9_pull {l : Launch} {E : XEnv} {d : Nat} {σ : XSt} {a : Nat → Int32} {Q : Int32 → XSt → Prop} (hG : xGl E) {x : Int32} {hl : List (Nat → Int32)} {sn : Option (Nat → Int32)} {t : Nat → Int32} {L : Nat} (hM : MRel σ a hl sn t L) (hI : xInv a)  (h : ∀ τ, MAct σ τ a hl sn t L (oPull a x).2 → Q (oPull a x).1 τ) : XMi l E (d + 4) mX9_pull [.ref (xad E 0), .int x] σ Q := by
  have g0 := hG.1
  have g1 := hG.2.1
  have g2 := hG.2.2.1
  have g3 := hG.2.2.2.1
  have g4 := hG.2.2.2.2.1
  have g5 := hG.2.2.2.2.2.1
  have g6 := hG.2.2.2.2.2.2.1
  have g7 := hG.2.2.2.2.2.2.2.1
  have hS : su σ 1 a = σ := by rw [← hM.1]; exact su_id σ 1
  obtain ⟨hx, hO, hN, hD, hW, hE, hA⟩ := id hI
  obtain ⟨ix1, ix2, ix3, ix4, iy1, iy2, iy3, iy4⟩ := id hx
  rw [← hS]
  refine xr_entry (lv := [some (.ref (xad E 0)), some (.int x)]) (by decide +kernel) (by simp [Value.category]) (Nat.le_of_ble_eq_true rfl) rfl (fun w hw cx cz => ?_)
  subst hw
  refine xr_iload_1 cx dX9_pull_0 ?_
  refine xr_i2l cx dX9_pull_1 ?_
  refine xr_lconst (v := 0) cx dX9_pull_2 (by decide) ?_
  refine xr_ldc2 cx dX9_pull_3 kc_X9_96 ?_
  refine xr_S3i (ν := mX9_in) cx dX9_pull_6 rfl ml_X9_37 sf_X9_in (Nat.le_of_ble_eq_true rfl) (m_X9_in ?_)
  refine xr_if_ne (tgt := 14) cx dX9_pull_9 (by decide) (fun cq9 => ?_) (fun cq9 => ?_)
  · have hb : ¬ (x.toInt64 < 0 ∨ (2 : Int64) < x.toInt64) := fun q => by rw [if_pos q] at cq9; exact cq9 rfl
    have hb2 : ¬ (x < 0 ∨ 2 < x) := fun q => hb ((x64_in (a := 0) (b := 2)).mpr q)
    obtain ⟨c, hc, rfl⟩ := nI_of (fun q => hb2 (Or.inl q))
    have hc3 : c < 3 := by
      rcases Nat.lt_or_ge c 3 with q | q
      · exact q
      · exact absurd (Or.inr (show nI 2 < nI c from nI_lt (by omega) hc)) hb2
    unfold oPull at h
    rw [if_neg (show ¬ (nI c < 0 ∨ (3 : Int32) ≤ nI c) from fun q => Or.elim q (fun q => hb2 (Or.inl q)) (fun q => nI_ge (a := c) (b := 3) hc3 (by decide) q)), nI_clamp hc] at h
    refine xr_aload_0 cx dX9_pull_14 ?_
    refine xr_V0v (ν := mX9_remember) cx dX9_pull_15 rfl ml_X9_79 vf_X9_remember g0 (Nat.le_of_ble_eq_true rfl) (m_X9_remember hG ?_)
    rw [su_same, su_comm σ a a (by decide)]
    refine xr_aload_0 cx dX9_pull_18 ?_
    refine xr_iload_1 cx dX9_pull_19 ?_
    refine xr_V1v (ν := mX9_pulls) cx dX9_pull_20 rfl ml_X9_62 vf_X9_pulls g0 (Nat.le_of_ble_eq_true rfl) (m_X9_pulls hG hc3 ?_)
    refine xr_aload_0 cx dX9_pull_23 ?_
    refine xr_aload_0 cx dX9_pull_24 ?_
    refine xr_getR cx dX9_pull_25 fl_X9_7 g0 rfl ?_
    refine xr_iconst (v := 4) cx dX9_pull_28 (by decide) ?_
    refine xr_iload_1 cx dX9_pull_29 ?_
    refine xr_iadd cx dX9_pull_30 ?_
    refine xr_ialdN (j := 4 + c) cx dX9_pull_31 g1 (nI_add 4 c) (by omega) (by decide) ?_
    rw [su_same]
    refine xr_V1i (ν := mX9_acted) cx dX9_pull_32 rfl ml_X9_82 vf_X9_acted g0 (Nat.le_of_ble_eq_true rfl) (m_X9_acted hG (MRel_1 (MRel_2 hM)) (by rw [su_ne _ _ (by decide), su_same]) (fun τ r1 r2 => ?_))
    refine xr_iret cx cz dX9_pull_35 rfl ?_
    exact h τ (MAct_some r1 r2)
  · have hb : x.toInt64 < 0 ∨ (2 : Int64) < x.toInt64 := by by_cases q : x.toInt64 < 0 ∨ (2 : Int64) < x.toInt64; exact q; rw [if_neg q] at cq9; exact absurd cq9 (by decide)
    have hb2 := (x64_in (a := 0) (b := 2)).mp hb
    unfold oPull at h
    rw [if_pos (by
      rcases hb2 with z | z
      · exact Or.inl z
      · refine Or.inr ?_
        rw [Int32.lt_iff_toInt_lt] at z
        rw [Int32.le_iff_toInt_le]
        have e1 : (2 : Int32).toInt = 2 := rfl
        have e2 : (3 : Int32).toInt = 3 := rfl
        omega)] at h
    refine xr_iconst (v := -1) cx dX9_pull_12 (by decide) ?_
    refine xr_iret cx cz dX9_pull_13 rfl ?_
    exact h _ (MAct_none hM)
theorem m_X9_pin {l : Launch} {E : XEnv} {d : Nat} {σ : XSt} {a : Nat → Int32} {Q : Int32 → XSt → Prop} (hG : xGl E) {x y : Int32} {hl : List (Nat → Int32)} {sn : Option (Nat → Int32)} {t : Nat → Int32} {L : Nat} (hM : MRel σ a hl sn t L) (hI : xInv a)  (h : ∀ τ, MAct σ τ a hl sn t L (oPin a x y).2 → Q (oPin a x y).1 τ) : XMi l E (d + 4) mX9_pin [.ref (xad E 0), .int x, .int y] σ Q := by
  have g0 := hG.1
  have g1 := hG.2.1
  have g2 := hG.2.2.1
  have g3 := hG.2.2.2.1
  have g4 := hG.2.2.2.2.1
  have g5 := hG.2.2.2.2.2.1
  have g6 := hG.2.2.2.2.2.2.1
  have g7 := hG.2.2.2.2.2.2.2.1
  have hS : su σ 1 a = σ := by rw [← hM.1]; exact su_id σ 1
  obtain ⟨hx, hO, hN, hD, hW, hE, hA⟩ := id hI
  obtain ⟨ix1, ix2, ix3, ix4, iy1, iy2, iy3, iy4⟩ := id hx
  rw [← hS]
  refine xr_entry (lv := [some (.ref (xad E 0)), some (.int x), some (.int y)]) (by decide +kernel) (by simp [Value.category]) (Nat.le_of_ble_eq_true rfl) rfl (fun w hw cx cz => ?_)
  subst hw
  refine xr_iload_1 cx dX9_pin_0 ?_
  refine xr_S1i (ν := mX9_isPanel) cx dX9_pin_1 rfl ml_X9_98 sf_X9_isPanel (Nat.le_of_ble_eq_true rfl) (m_X9_isPanel ?_)
  refine xr_if_ne (tgt := 9) cx dX9_pin_4 (by decide) (fun cq4 => ?_) (fun cq4 => ?_)
  · have hpn := x_mpanel cq4
    obtain ⟨p, hp6, rfl, hpn2, hpc⟩ := hpn
    unfold oPin at h
    rw [if_neg hpn2, hpc] at h
    refine xr_aload_0 cx dX9_pin_9 ?_
    refine xr_iload_1 cx dX9_pin_10 ?_
    refine xr_V1i (ν := mX9_isPinned) cx dX9_pin_11 rfl ml_X9_49 vf_X9_isPinned g0 (Nat.le_of_ble_eq_true rfl) (m_X9_isPinned hG (by omega) ?_)
    refine xr_iload_2 cx dX9_pin_14 ?_
    refine xr_icmp_ne (tgt := 21) cx dX9_pin_15 (by decide) (fun cq15 => ?_) (fun cq15 => ?_)
    · rw [if_neg cq15] at h
      refine xr_aload_0 cx dX9_pin_21 ?_
      refine xr_V0v (ν := mX9_remember) cx dX9_pin_22 rfl ml_X9_79 vf_X9_remember g0 (Nat.le_of_ble_eq_true rfl) (m_X9_remember hG ?_)
      rw [su_same, su_comm σ a a (by decide)]
      refine xr_aload_0 cx dX9_pin_25 ?_
      refine xr_getR cx dX9_pin_26 fl_X9_7 g0 rfl ?_
      refine xr_bipush (v := 7) cx dX9_pin_29 (by decide) ?_
      refine xr_dup2 cx dX9_pin_31 rfl rfl ?_
      refine xr_ialdN (j := 7) cx dX9_pin_32 g1 rfl (by decide) (by decide) ?_
      rw [su_same]
      refine xr_iconst (v := 1) cx dX9_pin_33 (by decide) ?_
      refine xr_iload_1 cx dX9_pin_34 ?_
      refine xr_ishl cx dX9_pin_35 ?_
      refine xr_ixor cx dX9_pin_36 ?_
      refine xr_iastN (j := 7) cx dX9_pin_37 g1 rfl (by decide) (by decide) ?_
      rw [su_same, su_su]
      refine xr_aload_0 cx dX9_pin_38 ?_
      refine xr_aload_0 cx dX9_pin_39 ?_
      refine xr_getR cx dX9_pin_40 fl_X9_7 g0 rfl ?_
      refine xr_bipush (v := 7) cx dX9_pin_43 (by decide) ?_
      refine xr_ialdN (j := 7) cx dX9_pin_45 g1 rfl (by decide) (by decide) ?_
      rw [su_same]
      rw [upd_same]
      refine xr_S1i (ν := mX9_bits) cx dX9_pin_46 rfl ml_X9_101 sf_X9_bits (Nat.le_of_ble_eq_true rfl) (m_X9_bits ?_)
      rw [← swar_pop]
      refine xr_V1i (ν := mX9_acted) cx dX9_pin_49 rfl ml_X9_82 vf_X9_acted g0 (Nat.le_of_ble_eq_true rfl) (m_X9_acted hG (MRel_1 (MRel_2 hM)) (by rw [su_ne _ _ (by decide), su_same]) (fun τ r1 r2 => ?_))
      refine xr_iret cx cz dX9_pin_52 rfl ?_
      exact h τ (MAct_some r1 r2)
    · refine xr_bipush (v := -5) cx dX9_pin_18 (by decide) ?_
      refine xr_iret cx cz dX9_pin_20 rfl ?_
      rw [if_pos cq15] at h
      exact h _ (MAct_none hM)
  · unfold oPin at h
    rw [if_pos (x_mnpanel cq4)] at h
    refine xr_iconst (v := -1) cx dX9_pin_7 (by decide) ?_
    refine xr_iret cx cz dX9_pin_8 rfl ?_
    exact h _ (MAct_none hM)
theorem m_X9_wipe {l : Launch} {E : XEnv} {d : Nat} {σ : XSt} {a : Nat → Int32} {Q : Int32 → XSt → Prop} (hG : xGl E) {x : Int32} {hl : List (Nat → Int32)} {sn : Option (Nat → Int32)} {t : Nat → Int32} {L : Nat} (hM : MRel σ a hl sn t L) (hI : xInv a)  (h : ∀ τ, MAct σ τ a hl sn t L (oWipe a x).2 → Q (oWipe a x).1 τ) : XMi l E (d + 4) mX9_wipe [.ref (xad E 0), .int x] σ Q := by
  have g0 := hG.1
  have g1 := hG.2.1
  have g2 := hG.2.2.1
  have g3 := hG.2.2.2.1
  have g4 := hG.2.2.2.2.1
  have g5 := hG.2.2.2.2.2.1
  have g6 := hG.2.2.2.2.2.2.1
  have g7 := hG.2.2.2.2.2.2.2.1
  have hS : su σ 1 a = σ := by rw [← hM.1]; exact su_id σ 1
  obtain ⟨hx, hO, hN, hD, hW, hE, hA⟩ := id hI
  obtain ⟨ix1, ix2, ix3, ix4, iy1, iy2, iy3, iy4⟩ := id hx
  rw [← hS]
  refine xr_entry (lv := [some (.ref (xad E 0)), some (.int x), none]) (by decide +kernel) (by simp [Value.category]) (Nat.le_of_ble_eq_true rfl) rfl (fun w hw cx cz => ?_)
  subst hw
  refine xr_iload_1 cx dX9_wipe_0 ?_
  refine xr_S1i (ν := mX9_isPanel) cx dX9_wipe_1 rfl ml_X9_98 sf_X9_isPanel (Nat.le_of_ble_eq_true rfl) (m_X9_isPanel ?_)
  refine xr_if_ne (tgt := 9) cx dX9_wipe_4 (by decide) (fun cq4 => ?_) (fun cq4 => ?_)
  · have hpn := x_mpanel cq4
    obtain ⟨p, hp6, rfl, hpn2, hpc⟩ := hpn
    unfold oWipe at h
    rw [if_neg hpn2, hpc] at h
    refine xr_aload_0 cx dX9_wipe_9 ?_
    refine xr_iload_1 cx dX9_wipe_10 ?_
    refine xr_V1i (ν := mX9_isPinned) cx dX9_wipe_11 rfl ml_X9_49 vf_X9_isPinned g0 (Nat.le_of_ble_eq_true rfl) (m_X9_isPinned hG (by omega) ?_)
    refine xr_if_ne (tgt := 25) cx dX9_wipe_14 (by decide) (fun cq14 => ?_) (fun cq14 => ?_)
    · have hb : bt (a 7) p = true := by by_cases q : bt (a 7) p = true; exact q; rw [if_neg q] at cq14; exact absurd rfl cq14
      rw [if_pos (Or.inl hb)] at h
      refine xr_bipush (v := -4) cx dX9_wipe_25 (by decide) ?_
      refine xr_iret cx cz dX9_wipe_27 rfl ?_
      exact h _ (MAct_none hM)
    · have hb : ¬ bt (a 7) p = true := by intro q; rw [if_pos q] at cq14; exact absurd cq14 (by decide)
      refine xr_aload_0 cx dX9_wipe_17 ?_
      refine xr_iload_1 cx dX9_wipe_18 ?_
      refine xr_V1i (ν := mX9_isFront) cx dX9_wipe_19 rfl ml_X9_59 vf_X9_isFront g0 (Nat.le_of_ble_eq_true rfl) (m_X9_isFront hG hp6 ?_)
      refine xr_if_ne (tgt := 28) cx dX9_wipe_22 (by decide) (fun cq22 => ?_) (fun cq22 => ?_)
      · have hf : mFront a p = true := by by_cases q : mFront a p = true; exact q; rw [if_neg q] at cq22; exact absurd rfl cq22
        rw [if_neg (fun q => Or.elim q hb (fun q => q hf))] at h
        refine xr_aload_0 cx dX9_wipe_28 ?_
        refine xr_getR cx dX9_wipe_29 fl_X9_7 g0 rfl ?_
        refine xr_bipush (v := 17) cx dX9_wipe_32 (by decide) ?_
        refine xr_iload_1 cx dX9_wipe_34 ?_
        refine xr_iadd cx dX9_wipe_35 ?_
        refine xr_ialdN (j := 17 + p) cx dX9_wipe_36 g1 (nI_add 17 p) (by omega) (by decide) ?_
        rw [su_same]
        refine xr_if_ne (tgt := 43) cx dX9_wipe_37 (by decide) (fun cq37 => ?_) (fun cq37 => ?_)
        · rw [if_neg cq37] at h
          refine xr_aload_0 cx dX9_wipe_43 ?_
          refine xr_V0v (ν := mX9_remember) cx dX9_wipe_44 rfl ml_X9_79 vf_X9_remember g0 (Nat.le_of_ble_eq_true rfl) (m_X9_remember hG ?_)
          rw [su_same, su_comm σ a a (by decide)]
          refine xr_aload_0 cx dX9_wipe_47 ?_
          refine xr_getR cx dX9_wipe_48 fl_X9_7 g0 rfl ?_
          refine xr_bipush (v := 17) cx dX9_wipe_51 (by decide) ?_
          refine xr_iload_1 cx dX9_wipe_53 ?_
          refine xr_iadd cx dX9_wipe_54 ?_
          refine xr_ialdN (j := 17 + p) cx dX9_wipe_55 g1 (nI_add 17 p) (by omega) (by decide) ?_
          rw [su_same]
          refine xr_S1i (ν := mX9_bits) cx dX9_wipe_56 rfl ml_X9_101 sf_X9_bits (Nat.le_of_ble_eq_true rfl) (m_X9_bits ?_)
          rw [← swar_pop]
          refine xr_istore_2 cx dX9_wipe_59 ?_
          refine xr_aload_0 cx dX9_wipe_60 ?_
          refine xr_iload_1 cx dX9_wipe_61 ?_
          refine xr_V1v (ν := mX9_wipes) cx dX9_wipe_62 rfl ml_X9_69 vf_X9_wipes g0 (Nat.le_of_ble_eq_true rfl) (m_X9_wipes hG hp6 ?_)
          refine xr_aload_0 cx dX9_wipe_65 ?_
          refine xr_iload_2 cx dX9_wipe_66 ?_
          refine xr_V1i (ν := mX9_acted) cx dX9_wipe_67 rfl ml_X9_82 vf_X9_acted g0 (Nat.le_of_ble_eq_true rfl) (m_X9_acted hG (MRel_1 (MRel_2 hM)) (by rw [su_ne _ _ (by decide), su_same]) (fun τ r1 r2 => ?_))
          refine xr_iret cx cz dX9_wipe_70 rfl ?_
          exact h τ (MAct_some r1 r2)
        · refine xr_bipush (v := -5) cx dX9_wipe_40 (by decide) ?_
          refine xr_iret cx cz dX9_wipe_42 rfl ?_
          rw [if_pos cq37] at h
          exact h _ (MAct_none hM)
      · have hf : ¬ mFront a p = true := fun q => by rw [if_pos q] at cq22; exact absurd cq22 (by decide)
        rw [if_pos (Or.inr hf)] at h
        refine xr_bipush (v := -4) cx dX9_wipe_25 (by decide) ?_
        refine xr_iret cx cz dX9_wipe_27 rfl ?_
        exact h _ (MAct_none hM)
  · unfold oWipe at h
    rw [if_pos (x_mnpanel cq4)] at h
    refine xr_iconst (v := -1) cx dX9_wipe_7 (by decide) ?_
    refine xr_iret cx cz dX9_wipe_8 rfl ?_
    exact h _ (MAct_none hM)
theorem m_X9_photo {l : Launch} {E : XEnv} {d : Nat} {σ : XSt} {a : Nat → Int32} {Q : Int32 → XSt → Prop} (hG : xGl E) {x : Int32} {hl : List (Nat → Int32)} {sn : Option (Nat → Int32)} {t : Nat → Int32} {L : Nat} (hM : MRel σ a hl sn t L) (hI : xInv a)  (h : ∀ τ, MAct σ τ a hl sn t L (oPhoto a x).2 → Q (oPhoto a x).1 τ) : XMi l E (d + 4) mX9_photo [.ref (xad E 0), .int x] σ Q := by
  have g0 := hG.1
  have g1 := hG.2.1
  have g2 := hG.2.2.1
  have g3 := hG.2.2.2.1
  have g4 := hG.2.2.2.2.1
  have g5 := hG.2.2.2.2.2.1
  have g6 := hG.2.2.2.2.2.2.1
  have g7 := hG.2.2.2.2.2.2.2.1
  have hS : su σ 1 a = σ := by rw [← hM.1]; exact su_id σ 1
  obtain ⟨hx, hO, hN, hD, hW, hE, hA⟩ := id hI
  obtain ⟨ix1, ix2, ix3, ix4, iy1, iy2, iy3, iy4⟩ := id hx
  rw [← hS]
  refine xr_entry (lv := [some (.ref (xad E 0)), some (.int x), none]) (by decide +kernel) (by simp [Value.category]) (Nat.le_of_ble_eq_true rfl) rfl (fun w hw cx cz => ?_)
  subst hw
  refine xr_iload_1 cx dX9_photo_0 ?_
  refine xr_S1i (ν := mX9_isPanel) cx dX9_photo_1 rfl ml_X9_98 sf_X9_isPanel (Nat.le_of_ble_eq_true rfl) (m_X9_isPanel ?_)
  refine xr_if_ne (tgt := 9) cx dX9_photo_4 (by decide) (fun cq4 => ?_) (fun cq4 => ?_)
  · have hpn := x_mpanel cq4
    obtain ⟨p, hp6, rfl, hpn2, hpc⟩ := hpn
    unfold oPhoto at h
    rw [if_neg hpn2, hpc] at h
    refine xr_aload_0 cx dX9_photo_9 ?_
    refine xr_iload_1 cx dX9_photo_10 ?_
    refine xr_V1i (ν := mX9_isFront) cx dX9_photo_11 rfl ml_X9_59 vf_X9_isFront g0 (Nat.le_of_ble_eq_true rfl) (m_X9_isFront hG hp6 ?_)
    refine xr_if_eq (tgt := 29) cx dX9_photo_14 (by decide) (fun cq14 => ?_) (fun cq14 => ?_)
    · have hf : ¬ mFront a p = true := fun q => by rw [if_pos q] at cq14; exact absurd cq14 (by decide)
      rw [if_pos (Or.inl hf)] at h
      refine xr_bipush (v := -4) cx dX9_photo_29 (by decide) ?_
      refine xr_iret cx cz dX9_photo_31 rfl ?_
      exact h _ (MAct_none hM)
    · have hf : mFront a p = true := by by_cases q : mFront a p = true; exact q; rw [if_neg q] at cq14; exact absurd rfl cq14
      refine xr_aload_0 cx dX9_photo_17 ?_
      refine xr_getR cx dX9_photo_18 fl_X9_7 g0 rfl ?_
      refine xr_bipush (v := 17) cx dX9_photo_21 (by decide) ?_
      refine xr_iload_1 cx dX9_photo_23 ?_
      refine xr_iadd cx dX9_photo_24 ?_
      refine xr_ialdN (j := 17 + p) cx dX9_photo_25 g1 (nI_add 17 p) (by omega) (by decide) ?_
      rw [su_same]
      refine xr_if_ne (tgt := 32) cx dX9_photo_26 (by decide) (fun cq26 => ?_) (fun cq26 => ?_)
      · rw [if_neg (fun q => Or.elim q (fun q => q hf) cq26)] at h
        refine xr_aload_0 cx dX9_photo_32 ?_
        refine xr_getR cx dX9_photo_33 fl_X9_7 g0 rfl ?_
        refine xr_bipush (v := 10) cx dX9_photo_36 (by decide) ?_
        refine xr_ialdN (j := 10) cx dX9_photo_38 g1 rfl (by decide) (by decide) ?_
        rw [su_same]
        refine xr_bipush (v := 40) cx dX9_photo_39 (by decide) ?_
        rw [ix4]
        refine xr_icmp_ne (tgt := 47) cx dX9_photo_41 (by decide) (fun cq41 => ?_) (fun cq41 => ?_)
        · have ht40 : mTk a < 40 := by
            have : mTk a ≠ 40 := fun q => cq41 (by rw [q]; rfl)
            omega
          rw [if_neg (by rw [ix4]; exact nI_ge (a := mTk a) (b := 40) ht40 (by decide))] at h
          refine xr_aload_0 cx dX9_photo_47 ?_
          refine xr_V0v (ν := mX9_remember) cx dX9_photo_48 rfl ml_X9_79 vf_X9_remember g0 (Nat.le_of_ble_eq_true rfl) (m_X9_remember hG ?_)
          rw [su_same, su_comm σ a a (by decide)]
          refine xr_aload_0 cx dX9_photo_51 ?_
          refine xr_getR cx dX9_photo_52 fl_X9_7 g0 rfl ?_
          refine xr_bipush (v := 17) cx dX9_photo_55 (by decide) ?_
          refine xr_iload_1 cx dX9_photo_57 ?_
          refine xr_iadd cx dX9_photo_58 ?_
          refine xr_ialdN (j := 17 + p) cx dX9_photo_59 g1 (nI_add 17 p) (by omega) (by decide) ?_
          rw [su_same]
          refine xr_aload_0 cx dX9_photo_60 ?_
          refine xr_V0i (ν := mX9_onPhotos) cx dX9_photo_61 rfl ml_X9_41 vf_X9_onPhotos g0 (Nat.le_of_ble_eq_true rfl) (m_X9_onPhotos hG hx ?_)
          refine xr_iconst (v := -1) cx dX9_photo_64 (by decide) ?_
          refine xr_ixor cx dX9_photo_65 ?_
          refine xr_iand cx dX9_photo_66 ?_
          refine xr_S1i (ν := mX9_bits) cx dX9_photo_67 rfl ml_X9_101 sf_X9_bits (Nat.le_of_ble_eq_true rfl) (m_X9_bits ?_)
          rw [← swar_pop]
          refine xr_istore_2 cx dX9_photo_70 ?_
          refine xr_aload_0 cx dX9_photo_71 ?_
          refine xr_getR cx dX9_photo_72 fl_X9_7 g0 rfl ?_
          refine xr_bipush (v := 29) cx dX9_photo_75 (by decide) ?_
          refine xr_aload_0 cx dX9_photo_77 ?_
          refine xr_getR cx dX9_photo_78 fl_X9_7 g0 rfl ?_
          refine xr_bipush (v := 10) cx dX9_photo_81 (by decide) ?_
          refine xr_ialdN (j := 10) cx dX9_photo_83 g1 rfl (by decide) (by decide) ?_
          rw [su_same]
          rw [ix4]
          refine xr_iadd cx dX9_photo_84 ?_
          refine xr_iload_1 cx dX9_photo_85 ?_
          refine xr_iastN (j := 29 + mTk a) cx dX9_photo_86 g1 (nI_add 29 _) (by omega) (by decide) ?_
          rw [su_same, su_su]
          refine xr_aload_0 cx dX9_photo_87 ?_
          refine xr_getR cx dX9_photo_88 fl_X9_7 g0 rfl ?_
          refine xr_bipush (v := 69) cx dX9_photo_91 (by decide) ?_
          refine xr_aload_0 cx dX9_photo_93 ?_
          refine xr_getR cx dX9_photo_94 fl_X9_7 g0 rfl ?_
          refine xr_bipush (v := 10) cx dX9_photo_97 (by decide) ?_
          refine xr_ialdN (j := 10) cx dX9_photo_99 g1 rfl (by decide) (by decide) ?_
          rw [su_same]
          rw [upd_ne _ _ (by omega), ix4]
          refine xr_iadd cx dX9_photo_100 ?_
          refine xr_aload_0 cx dX9_photo_101 ?_
          refine xr_getR cx dX9_photo_102 fl_X9_7 g0 rfl ?_
          refine xr_bipush (v := 17) cx dX9_photo_105 (by decide) ?_
          refine xr_iload_1 cx dX9_photo_107 ?_
          refine xr_iadd cx dX9_photo_108 ?_
          refine xr_ialdN (j := 17 + p) cx dX9_photo_109 g1 (nI_add 17 p) (by omega) (by decide) ?_
          rw [su_same]
          rw [upd_ne _ _ (by omega)]
          refine xr_iastN (j := 69 + mTk a) cx dX9_photo_110 g1 (nI_add 69 _) (by omega) (by decide) ?_
          rw [su_same, su_su]
          refine xr_aload_0 cx dX9_photo_111 ?_
          refine xr_getR cx dX9_photo_112 fl_X9_7 g0 rfl ?_
          refine xr_bipush (v := 10) cx dX9_photo_115 (by decide) ?_
          refine xr_dup2 cx dX9_photo_117 rfl rfl ?_
          refine xr_ialdN (j := 10) cx dX9_photo_118 g1 rfl (by decide) (by decide) ?_
          rw [su_same]
          rw [upd_ne _ _ (by omega), upd_ne _ _ (by omega)]
          refine xr_iconst (v := 1) cx dX9_photo_119 (by decide) ?_
          refine xr_iadd cx dX9_photo_120 ?_
          refine xr_iastN (j := 10) cx dX9_photo_121 g1 rfl (by decide) (by decide) ?_
          rw [su_same, su_su]
          rw [show upd (upd (upd a (29 + mTk a) (nI p)) (69 + mTk a) (a (17 + p))) 10 (a 10 + 1) = mPhoto a p from rfl]
          refine xr_aload_0 cx dX9_photo_122 ?_
          refine xr_iload_2 cx dX9_photo_123 ?_
          refine xr_V1i (ν := mX9_acted) cx dX9_photo_124 rfl ml_X9_82 vf_X9_acted g0 (Nat.le_of_ble_eq_true rfl) (m_X9_acted hG (MRel_1 (MRel_2 hM)) (by rw [su_ne _ _ (by decide), su_same]) (fun τ r1 r2 => ?_))
          refine xr_iret cx cz dX9_photo_127 rfl ?_
          exact h τ (MAct_some r1 r2)
        · rw [if_pos (by rw [ix4, show nI (mTk a) = 40 from cq41]; decide)] at h
          refine xr_bipush (v := -3) cx dX9_photo_44 (by decide) ?_
          refine xr_iret cx cz dX9_photo_46 rfl ?_
          exact h _ (MAct_none hM)
      · rw [if_pos (Or.inr cq26)] at h
        refine xr_bipush (v := -4) cx dX9_photo_29 (by decide) ?_
        refine xr_iret cx cz dX9_photo_31 rfl ?_
        exact h _ (MAct_none hM)
  · unfold oPhoto at h
    rw [if_pos (x_mnpanel cq4)] at h
    refine xr_iconst (v := -1) cx dX9_photo_7 (by decide) ?_
    refine xr_iret cx cz dX9_photo_8 rfl ?_
    exact h _ (MAct_none hM)
