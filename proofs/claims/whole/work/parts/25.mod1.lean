section XRN
variable {d : Nat} {w : XO} {E : XEnv} {μ : XMt} {pc : Nat} {lv : List (Option Value)} {st r : List Value} {σ : XSt}
theorem xr_ialdN {k n j : Nat} {i : Int32} (cx : CX d w E μ) (hd : decode μ.2.1 pc = .ok (.iaload, 1)) (hs : E.2.1[k]? = some (.inr (.inl (0, n)))) (hi : i = nI j) (hj : j < n) (hn : n < 2 ^ 31) (kk : XG w E (pc + 1) lv (.int (σ k j) :: r) σ) : XG w E pc lv (.int i :: .ref (xad E k) :: r) σ := by
  subst hi
  refine xr_iald cx hd hs (vp_in_nI hj hn) ?_
  rw [nI_clamp (by omega)]
  exact kk
theorem xr_iastN {k n j : Nat} {i x : Int32} (cx : CX d w E μ) (hd : decode μ.2.1 pc = .ok (.iastore, 1)) (hs : E.2.1[k]? = some (.inr (.inl (0, n)))) (hi : i = nI j) (hj : j < n) (hn : n < 2 ^ 31) (kk : XG w E (pc + 1) lv r (su σ k (upd (σ k) j x))) : XG w E pc lv (.int x :: .int i :: .ref (xad E k) :: r) σ := by
  subst hi
  refine xr_iast cx hd hs (vp_in_nI hj hn) ?_
  rw [nI_clamp (by omega)]
  exact kk
end XRN
theorem lg_lt {x y : Int64} : lg_cmp x y < 0 ↔ x < y := by
  unfold lg_cmp
  by_cases h1 : x > y
  · rw [if_pos h1]
    constructor
    · intro h; exact absurd h (by decide)
    · intro h; exact absurd h (Int64.not_lt.mpr (Int64.le_of_lt h1))
  · rw [if_neg h1]
    by_cases h2 : x = y
    · rw [if_pos h2]
      constructor
      · intro h; exact absurd h (by decide)
      · intro h; rw [h2] at h; exact absurd h (Int64.lt_irrefl)
    · rw [if_neg h2]
      constructor
      · intro _
        rcases Int64.lt_or_eq_of_le (Int64.not_lt.mp h1) with z | z
        · exact z
        · exact absurd z h2
      · intro _; decide
theorem lg_gt {x y : Int64} : 0 < lg_cmp x y ↔ y < x := by
  unfold lg_cmp
  by_cases h1 : x > y
  · rw [if_pos h1]
    constructor
    · intro _; exact h1
    · intro _; decide
  · rw [if_neg h1]
    by_cases h2 : x = y
    · rw [if_pos h2]
      constructor
      · intro h; exact absurd h (by decide)
      · intro h; exact absurd h h1
    · rw [if_neg h2]
      constructor
      · intro h; exact absurd h (by decide)
      · intro h; exact absurd h h1
set_option maxHeartbeats 4000000 in
theorem m_X9_in {l : Launch} {E : XEnv} {d : Nat} {v lo hi : Int64} {σ : XSt} {Q : Int32 → XSt → Prop} (h : Q (if v < lo ∨ hi < v then 0 else 1) σ) : XMi l E d mX9_in [.long v, .long lo, .long hi] σ Q := by
  refine Met.ofW (cc := cX9_in) (maxL := 6) (ret := some .boolean) (by decide +kernel) rfl ?_
  intro p e s m args below meth c s₁ B hml hv
  obtain ⟨rfl, hP, hK, hD, hN⟩ := hv
  have hx := B.exec
  have hb := B.bytes
  have hr := B.returns
  have hlocks := B.notSynchronized
  have hl := lv_entry ([.long v, .long lo, .long hi]) (n := 6) (Nat.le_of_ble_eq_true rfl)
  rw [lg_entry_eq]
  generalize (lg_sl ([.long v, .long lo, .long hi]) ++ List.replicate (6 - (lg_sl ([.long v, .long lo, .long hi])).length) Slot.unset).toArray = ls at hl ⊢
  have hl : lv_has ls 6 [(0, .long v), (2, .long lo), (4, .long hi)] := hl
  have hS : va_S (xA E) s.heap s.heap [] := va_S.rf
  have k0 : v < lo ∨ hi < v → Q 0 σ := fun q => by rw [if_pos q] at h; exact h
  have k1 : ¬ (v < lo ∨ hi < v) → Q 1 σ := fun q => by rw [if_neg q] at h; exact h
  refine lv_lload_n hx hb dX9_in_0 rfl (lv_at hl 0 rfl) ?_
  refine lv_lload_n hx hb dX9_in_1 rfl (lv_at hl 1 rfl) ?_
  refine W.lcmp hx hb dX9_in_2 ?_
  refine lv_if_lt (tgt := 17) hx hb dX9_in_3 (by decide) (fun c3 => ?_) (fun c3 => ?_)
  · refine lv_iconst (v := 0) hx hb dX9_in_17 (by decide) ?_
    exact W.zret hx hb hr rfl (fun t ht hW => ⟨⟨_, σ, rfl, ⟨0, rfl, k0 (Or.inl (lg_lt.mp c3))⟩, by rw [ht]; exact hP⟩, hS.F ht⟩) hS.2.2 dX9_in_18
  · refine lv_lload_n hx hb dX9_in_6 rfl (lv_at hl 0 rfl) ?_
    refine lv_lload hx hb dX9_in_7 (lv_at hl 2 rfl) ?_
    refine W.lcmp hx hb dX9_in_9 ?_
    refine lv_if_gt (tgt := 17) hx hb dX9_in_10 (by decide) (fun c10 => ?_) (fun c10 => ?_)
    · refine lv_iconst (v := 0) hx hb dX9_in_17 (by decide) ?_
      exact W.zret hx hb hr rfl (fun t ht hW => ⟨⟨_, σ, rfl, ⟨0, rfl, k0 (Or.inr (lg_gt.mp c10))⟩, by rw [ht]; exact hP⟩, hS.F ht⟩) hS.2.2 dX9_in_18
    · refine lv_iconst (v := 1) hx hb dX9_in_13 (by decide) ?_
      refine lv_goto (tgt := 18) hx hb dX9_in_14 (by decide) ?_
      exact W.zret hx hb hr rfl (fun t ht hW => ⟨⟨_, σ, rfl, ⟨1, rfl, k1 (fun q => q.elim (fun q => c3 (lg_lt.mpr q)) (fun q => c10 (lg_gt.mpr q)))⟩, by rw [ht]; exact hP⟩, hS.F ht⟩) hS.2.2 dX9_in_18
theorem x64_lt {x y : Int32} : x.toInt64 < y.toInt64 ↔ x < y := by
  rw [Int64.lt_iff_toInt_lt, Int32.lt_iff_toInt_lt, Int32.toInt_toInt64, Int32.toInt_toInt64]
theorem x64_in {x a b : Int32} : (x.toInt64 < a.toInt64 ∨ b.toInt64 < x.toInt64) ↔ (x < a ∨ b < x) := by rw [x64_lt, x64_lt]
theorem x_d2 {p : Nat} (h : p < 2 ^ 31) : nI p / 2 = nI (p / 2) := pk_div (d := 2) h (by decide) (by decide)
theorem x_p6 {x : Int32} : (x < 0 ∨ 5 < x) ↔ (x < 0 ∨ 6 ≤ x) := by
  have : 5 < x ↔ 6 ≤ x := by
    rw [Int32.lt_iff_toInt_lt, Int32.le_iff_toInt_le]
    have e1 : (5 : Int32).toInt = 5 := rfl
    have e2 : (6 : Int32).toInt = 6 := rfl
    omega
  rw [this]
theorem m_X9_isPanel {l : Launch} {E : XEnv} {d : Nat} {σ : XSt} {Q : Int32 → XSt → Prop} {x : Int32} (h : Q (if x < 0 ∨ 6 ≤ x then 0 else 1) σ) : XMi l E (d + 1) mX9_isPanel [.int x] σ Q := by
  refine xr_entry (lv := [some (.int x)]) (by decide +kernel) (by simp [Value.category]) (Nat.le_of_ble_eq_true rfl) rfl (fun w hw cx cz => ?_)
  subst hw
  refine xr_iload_0 cx dX9_isPanel_0 ?_
  refine xr_i2l cx dX9_isPanel_1 ?_
  refine xr_lconst (v := 0) cx dX9_isPanel_2 (by decide) ?_
  refine xr_ldc2 cx dX9_isPanel_3 kc_X9_35 ?_
  refine xr_S3i (ν := mX9_in) cx dX9_isPanel_6 rfl ml_X9_37 sf_X9_in (Nat.le_of_ble_eq_true rfl) (m_X9_in ?_)
  refine xr_zret cx cz dX9_isPanel_9 rfl (by split <;> rfl) ?_
  refine q_i h ?_
  have e : (x.toInt64 < 0 ∨ (5 : Int64) < x.toInt64) ↔ (x < 0 ∨ 6 ≤ x) := (x64_in (a := 0) (b := 5)).trans x_p6
  simp only [e]
/-- how many bits are set -/
def popN : Nat → Nat → Nat
  | 0, _ => 0
  | k + 1, n => n % 2 + popN k (n / 2)
def popC (x : Int32) : Nat := popN 32 x.toBitVec.toNat
theorem popN_0 : ∀ k, popN k 0 = 0
  | 0 => rfl
  | k + 1 => by rw [popN, popN_0 k]
theorem popN_and : ∀ (k n : Nat), 0 < n → n < 2 ^ k → popN k (n &&& (n - 1)) + 1 = popN k n
  | 0, n, h1, h2 => by omega
  | k + 1, n, h1, h2 => by
    rw [popN, popN, Nat.and_div_two]
    rcases Nat.mod_two_eq_zero_or_one n with e | e
    · have h3 : (n &&& (n - 1)) % 2 = 0 := by
        rcases Nat.mod_two_eq_zero_or_one (n &&& (n - 1)) with z | z
        · exact z
        · have := (Nat.and_mod_two_eq_one.mp z).1; omega
      have ih := popN_and k (n / 2) (by omega) (by omega)
      rw [h3, e, show (n - 1) / 2 = n / 2 - 1 by omega]
      omega
    · have h3 : (n &&& (n - 1)) % 2 = 0 := by
        rcases Nat.mod_two_eq_zero_or_one (n &&& (n - 1)) with z | z
        · exact z
        · have := (Nat.and_mod_two_eq_one.mp z).2; omega
      rw [h3, e, show (n - 1) / 2 = n / 2 by omega, Nat.and_self]
      omega
theorem popC_step {x : Int32} (h : ¬ x = 0) : popC (x &&& (x - 1)) + 1 = popC x := by
  have h0 : 0 < x.toBitVec.toNat := by
    rcases Nat.eq_zero_or_pos x.toBitVec.toNat with q | q
    · exact absurd (Int32.toBitVec_inj.mp (BitVec.eq_of_toNat_eq (by rw [q]; rfl))) h
    · exact q
  have h1 : (x &&& (x - 1)).toBitVec.toNat = x.toBitVec.toNat &&& (x.toBitVec.toNat - 1) := by
    rw [Int32.toBitVec_and, BitVec.toNat_and, Int32.toBitVec_sub, BitVec.toNat_sub]
    congr 1
    have e : (1 : Int32).toBitVec.toNat = 1 := rfl
    rw [e]
    have := x.toBitVec.isLt
    omega
  unfold popC
  rw [h1]
  exact popN_and 32 _ h0 x.toBitVec.isLt
theorem popC_0 {x : Int32} (h : popC x = 0) : x = 0 := by
  by_cases c : x = 0
  · exact c
  · have := popC_step c; omega
theorem popN_le : ∀ k n, popN k n ≤ k
  | 0, _ => Nat.le_refl _
  | k + 1, n => by
    rw [popN]
    have := popN_le k (n / 2)
    omega
theorem lp_X9_bits {E : XEnv} {d : Nat} {σ : XSt} {Q : Int32 → XSt → Prop} {w : XO} {y : Option Value} (cx : CX d w E mX9_bits) (cz : CZi w E Q) : ∀ n (x : Int32) (acc : Nat), popC x = n → Q (nI (acc + n)) σ → XG w E 4 [y, some (.int (nI acc)), some (.int x)] [] σ := by
  intro n
  induction n with
  | zero =>
    intro x acc hi h
    refine xr_iload_2 cx dX9_bits_4 ?_
    refine xr_if_eq (tgt := 20) cx dX9_bits_5 (by decide) (fun cq5 => ?_) (fun cq5 => ?_)
    · refine xr_iload_1 cx dX9_bits_20 ?_
      refine xr_iret cx cz dX9_bits_21 rfl ?_
      exact h
    · exact absurd (popC_0 hi) cq5
  | succ n ih =>
    intro x acc hi h
    refine xr_iload_2 cx dX9_bits_4 ?_
    refine xr_if_eq (tgt := 20) cx dX9_bits_5 (by decide) (fun cq5 => ?_) (fun cq5 => ?_)
    · rw [cq5, show popC 0 = 0 from popN_0 32] at hi; omega
    · refine xr_iinc_1 (y := 1) cx dX9_bits_8 (by decide) ?_
      refine xr_iload_2 cx dX9_bits_11 ?_
      refine xr_iload_2 cx dX9_bits_12 ?_
      refine xr_iconst (v := 1) cx dX9_bits_13 (by decide) ?_
      refine xr_isub cx dX9_bits_14 ?_
      refine xr_iand cx dX9_bits_15 ?_
      refine xr_istore_2 cx dX9_bits_16 ?_
      refine xr_goto (tgt := 4) cx dX9_bits_17 (by decide) ?_
      rw [nI_1]
      exact ih _ _ (by have := popC_step cq5; omega) (by rw [show acc + 1 + n = acc + (n + 1) by omega]; exact h)
theorem m_X9_bits {l : Launch} {E : XEnv} {d : Nat} {σ : XSt} {Q : Int32 → XSt → Prop} {x : Int32} (h : Q (nI (popC x)) σ) : XMi l E d mX9_bits [.int x] σ Q := by
  refine xr_entry (lv := [some (.int x), none, none]) (by decide +kernel) (by simp [Value.category]) (Nat.le_of_ble_eq_true rfl) rfl (fun w hw cx cz => ?_)
  subst hw
  refine xr_iconst (v := 0) cx dX9_bits_0 (by decide) ?_
  refine xr_istore_1 cx dX9_bits_1 ?_
  refine xr_iload_0 cx dX9_bits_2 ?_
  refine xr_istore_2 cx dX9_bits_3 ?_
  exact lp_X9_bits cx cz (popC x) x 0 rfl (by rw [Nat.zero_add]; exact h)
theorem lp_X9_remember {E : XEnv} {d : Nat} {Q : XSt → Prop} {w : XO} (hG : xGl E) (cx : CX d w E mX9_remember) (cz : CZv w E Q) : ∀ n i {σ : XSt}, i + n = 230 → (∀ j, j < i → σ 2 j = σ 1 j) → Q (su σ 2 (σ 1)) → XG w E 2 [some (.ref (xad E 0)), some (.int (nI i))] [] σ := by
  have g0 := hG.1
  have g1 := hG.2.1
  have g2 := hG.2.2.1
  have g3 := hG.2.2.2.1
  have g4 := hG.2.2.2.2.1
  have g5 := hG.2.2.2.2.2.1
  have g6 := hG.2.2.2.2.2.2.1
  have g7 := hG.2.2.2.2.2.2.2.1
  intro n
  induction n with
  | zero =>
    intro i σ hi hj0 h
    obtain rfl : i = 230 := by omega
    refine xr_iload_1 cx dX9_remember_2 ?_
    refine xr_sipush (v := 230) cx dX9_remember_3 (by decide) ?_
    refine xr_icmp_ge (tgt := 27) cx dX9_remember_6 (by decide) (fun cq6 => ?_) (fun cq6 => ?_)
    · refine xr_row (k := 2) (σ 1) g2 (fun j hj => (hj0 j hj).symm) ?_
      refine xr_vret cx cz dX9_remember_27 rfl ?_
      exact h
    · exact absurd (nI_le (a := 230) (b := 230) (by decide) (by decide)) cq6
  | succ n ih =>
    intro i σ hi hj0 h
    refine xr_iload_1 cx dX9_remember_2 ?_
    refine xr_sipush (v := 230) cx dX9_remember_3 (by decide) ?_
    refine xr_icmp_ge (tgt := 27) cx dX9_remember_6 (by decide) (fun cq6 => ?_) (fun cq6 => ?_)
    · exact absurd cq6 (nI_ge (a := i) (b := 230) (by omega) (by decide))
    · refine xr_aload_0 cx dX9_remember_9 ?_
      refine xr_getR cx dX9_remember_10 fl_X9_13 g0 rfl ?_
      refine xr_iload_1 cx dX9_remember_13 ?_
      refine xr_aload_0 cx dX9_remember_14 ?_
      refine xr_getR cx dX9_remember_15 fl_X9_7 g0 rfl ?_
      refine xr_iload_1 cx dX9_remember_18 ?_
      refine xr_ialdN (j := i) cx dX9_remember_19 g1 rfl (by omega) (by decide) ?_
      refine xr_iastN (j := i) cx dX9_remember_20 g2 rfl (by omega) (by decide) ?_
      refine xr_iinc_1 (y := 1) cx dX9_remember_21 (by decide) ?_
      refine xr_goto (tgt := 2) cx dX9_remember_24 (by decide) ?_
      rw [nI_1]
      exact ih (i + 1) (by omega) (fun j hj => by
        rw [su_same, su_ne _ _ (by decide)]
        by_cases e : j = i
        · subst e; rw [upd_same]
        · rw [upd_ne _ _ e]; exact hj0 j (by omega)) (by rw [su_su, su_ne _ _ (by decide)]; exact h)
theorem m_X9_remember {l : Launch} {E : XEnv} {d : Nat} {σ : XSt} {Q : XSt → Prop} (hG : xGl E)  (h : Q (su σ 2 (σ 1))) : XMv l E d mX9_remember [.ref (xad E 0)] σ Q := by
  have g0 := hG.1
  have g1 := hG.2.1
  have g2 := hG.2.2.1
  have g3 := hG.2.2.2.1
  have g4 := hG.2.2.2.2.1
  have g5 := hG.2.2.2.2.2.1
  have g6 := hG.2.2.2.2.2.2.1
  have g7 := hG.2.2.2.2.2.2.2.1
  refine xr_entry (lv := [some (.ref (xad E 0)), none]) (by decide +kernel) (by simp [Value.category]) (Nat.le_of_ble_eq_true rfl) rfl (fun w hw cx cz => ?_)
  subst hw
  refine xr_iconst (v := 0) cx dX9_remember_0 (by decide) ?_
  refine xr_istore_1 cx dX9_remember_1 ?_
  exact lp_X9_remember hG cx cz 230 0 rfl (fun j hj => absurd hj (Nat.not_lt_zero j)) h
theorem lp_X9_giveBack {E : XEnv} {d : Nat} {Q : XSt → Prop} {w : XO} (hG : xGl E) (cx : CX d w E mX9_giveBack) (cz : CZv w E Q) : ∀ n i {σ : XSt}, i + n = 230 → (∀ j, j < i → σ 1 j = σ 2 j) → Q (su σ 1 (σ 2)) → XG w E 2 [some (.ref (xad E 0)), some (.int (nI i))] [] σ := by
  have g0 := hG.1
  have g1 := hG.2.1
  have g2 := hG.2.2.1
  have g3 := hG.2.2.2.1
  have g4 := hG.2.2.2.2.1
  have g5 := hG.2.2.2.2.2.1
  have g6 := hG.2.2.2.2.2.2.1
  have g7 := hG.2.2.2.2.2.2.2.1
  intro n
  induction n with
  | zero =>
    intro i σ hi hj0 h
    obtain rfl : i = 230 := by omega
    refine xr_iload_1 cx dX9_giveBack_2 ?_
    refine xr_sipush (v := 230) cx dX9_giveBack_3 (by decide) ?_
    refine xr_icmp_ge (tgt := 27) cx dX9_giveBack_6 (by decide) (fun cq6 => ?_) (fun cq6 => ?_)
    · refine xr_row (k := 1) (σ 2) g1 (fun j hj => (hj0 j hj).symm) ?_
      refine xr_vret cx cz dX9_giveBack_27 rfl ?_
      exact h
    · exact absurd (nI_le (a := 230) (b := 230) (by decide) (by decide)) cq6
  | succ n ih =>
    intro i σ hi hj0 h
    refine xr_iload_1 cx dX9_giveBack_2 ?_
    refine xr_sipush (v := 230) cx dX9_giveBack_3 (by decide) ?_
    refine xr_icmp_ge (tgt := 27) cx dX9_giveBack_6 (by decide) (fun cq6 => ?_) (fun cq6 => ?_)
    · exact absurd cq6 (nI_ge (a := i) (b := 230) (by omega) (by decide))
    · refine xr_aload_0 cx dX9_giveBack_9 ?_
      refine xr_getR cx dX9_giveBack_10 fl_X9_7 g0 rfl ?_
      refine xr_iload_1 cx dX9_giveBack_13 ?_
      refine xr_aload_0 cx dX9_giveBack_14 ?_
      refine xr_getR cx dX9_giveBack_15 fl_X9_13 g0 rfl ?_
      refine xr_iload_1 cx dX9_giveBack_18 ?_
      refine xr_ialdN (j := i) cx dX9_giveBack_19 g2 rfl (by omega) (by decide) ?_
      refine xr_iastN (j := i) cx dX9_giveBack_20 g1 rfl (by omega) (by decide) ?_
      refine xr_iinc_1 (y := 1) cx dX9_giveBack_21 (by decide) ?_
      refine xr_goto (tgt := 2) cx dX9_giveBack_24 (by decide) ?_
      rw [nI_1]
      exact ih (i + 1) (by omega) (fun j hj => by
        rw [su_same, su_ne _ _ (by decide)]
        by_cases e : j = i
        · subst e; rw [upd_same]
        · rw [upd_ne _ _ e]; exact hj0 j (by omega)) (by rw [su_su, su_ne _ _ (by decide)]; exact h)
theorem m_X9_giveBack {l : Launch} {E : XEnv} {d : Nat} {σ : XSt} {Q : XSt → Prop} (hG : xGl E)  (h : Q (su σ 1 (σ 2))) : XMv l E d mX9_giveBack [.ref (xad E 0)] σ Q := by
  have g0 := hG.1
  have g1 := hG.2.1
  have g2 := hG.2.2.1
  have g3 := hG.2.2.2.1
  have g4 := hG.2.2.2.2.1
  have g5 := hG.2.2.2.2.2.1
  have g6 := hG.2.2.2.2.2.2.1
  have g7 := hG.2.2.2.2.2.2.2.1
  refine xr_entry (lv := [some (.ref (xad E 0)), none]) (by decide +kernel) (by simp [Value.category]) (Nat.le_of_ble_eq_true rfl) rfl (fun w hw cx cz => ?_)
  subst hw
  refine xr_iconst (v := 0) cx dX9_giveBack_0 (by decide) ?_
  refine xr_istore_1 cx dX9_giveBack_1 ?_
  exact lp_X9_giveBack hG cx cz 230 0 rfl (fun j hj => absurd hj (Nat.not_lt_zero j)) h
