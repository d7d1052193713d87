/-- a row's number at an index: 0 beyond its ends; and a number put there -/
def rowAt (f : Nat → Int32) (n : Nat) (i : Int32) : Int32 := if i < 0 ∨ n ≤ i.toNatClampNeg then 0 else f i.toNatClampNeg
def rowPut (f : Nat → Int32) (n : Nat) (i x : Int32) : Nat → Int32 := if i < 0 ∨ n ≤ i.toNatClampNeg then f else upd f i.toNatClampNeg x
theorem rowAt_lo {f : Nat → Int32} {n : Nat} {i : Int32} (h : i < 0) : rowAt f n i = 0 := if_pos (Or.inl h)
theorem rowAt_hi {f : Nat → Int32} {n : Nat} {i : Int32} (h : ¬ i < 0) (h2 : nI n ≤ i) (hn : n < 2 ^ 31) : rowAt f n i = 0 := if_pos (Or.inr ((x_cmp h hn).mp h2))
theorem rowAt_ok {f : Nat → Int32} {n : Nat} {i : Int32} (h : ¬ i < 0) (h2 : ¬ nI n ≤ i) (hn : n < 2 ^ 31) : rowAt f n i = f i.toNatClampNeg := if_neg (fun q => q.elim h (fun q => h2 ((x_cmp h hn).mpr q)))
theorem rowPut_lo {f : Nat → Int32} {n : Nat} {i x : Int32} (h : i < 0) : rowPut f n i x = f := if_pos (Or.inl h)
theorem rowPut_hi {f : Nat → Int32} {n : Nat} {i x : Int32} (h : ¬ i < 0) (h2 : nI n ≤ i) (hn : n < 2 ^ 31) : rowPut f n i x = f := if_pos (Or.inr ((x_cmp h hn).mp h2))
theorem rowPut_ok {f : Nat → Int32} {n : Nat} {i x : Int32} (h : ¬ i < 0) (h2 : ¬ nI n ≤ i) (hn : n < 2 ^ 31) : rowPut f n i x = upd f i.toNatClampNeg x := if_neg (fun q => q.elim h (fun q => h2 ((x_cmp h hn).mpr q)))
theorem rowAt_in {f : Nat → Int32} {n j : Nat} (h : j < n) (hn : n < 2 ^ 31) : rowAt f n (nI j) = f j := by
  unfold rowAt
  rw [nI_clamp (by omega), if_neg (by rintro (q | q); exact nI_pos (by omega) q; omega)]
theorem rowPut_in {f : Nat → Int32} {n j : Nat} {x : Int32} (h : j < n) (hn : n < 2 ^ 31) : rowPut f n (nI j) x = upd f j x := by
  unfold rowPut
  rw [nI_clamp (by omega), if_neg (by rintro (q | q); exact nI_pos (by omega) q; omega)]
theorem m_X5_at {l : Launch} {E : XEnv} {d k t n : Nat} {i : Int32} {σ : XSt} {Q : Int32 → XSt → Prop} (hk : E.2.1[k]? = some (.inl (5, [some t]))) (ht : E.2.1[t]? = some (.inr (.inl (0, n)))) (hn : n < 2 ^ 31) (h : Q (rowAt (σ t) n i) σ) : XMi l E d mX5_at [.ref (xad E k), .int i] σ Q := by
  refine xr_entry (lv := [some (.ref (xad E k)), some (.int i)]) (by decide +kernel) (by simp [Value.category]) (Nat.le_of_ble_eq_true rfl) rfl (fun w hw cx cz => ?_)
  subst hw
  refine xr_iload_1 cx dX5_at_0 ?_
  refine xr_if_lt (tgt := 22) cx dX5_at_1 (by decide) (fun cq1 => ?_) (fun cq1 => ?_)
  · refine xr_iconst (v := 0) cx dX5_at_22 (by decide) ?_
    refine xr_iret cx cz dX5_at_23 rfl ?_
    first | exact q_i h (rowAt_ok cq1 cq10 hn).symm | exact q_i h (rowAt_hi cq1 cq10 hn).symm | exact q_i h (rowAt_lo cq1).symm
  · refine xr_iload_1 cx dX5_at_4 ?_
    refine xr_aload_0 cx dX5_at_5 ?_
    refine xr_getR cx dX5_at_6 fl_X5_13 hk rfl ?_
    refine xr_alen cx dX5_at_9 ht (by decide) ?_
    refine xr_icmp_ge (tgt := 22) cx dX5_at_10 (by decide) (fun cq10 => ?_) (fun cq10 => ?_)
    · refine xr_iconst (v := 0) cx dX5_at_22 (by decide) ?_
      refine xr_iret cx cz dX5_at_23 rfl ?_
      first | exact q_i h (rowAt_ok cq1 cq10 hn).symm | exact q_i h (rowAt_hi cq1 cq10 hn).symm | exact q_i h (rowAt_lo cq1).symm
    · refine xr_aload_0 cx dX5_at_13 ?_
      refine xr_getR cx dX5_at_14 fl_X5_13 hk rfl ?_
      refine xr_iload_1 cx dX5_at_17 ?_
      refine xr_iald cx dX5_at_18 ht (fun q => q.elim cq1 (fun q => cq10 ((x_cmp cq1 hn).mpr q))) ?_
      refine xr_goto (tgt := 23) cx dX5_at_19 (by decide) ?_
      refine xr_iret cx cz dX5_at_23 rfl ?_
      first | exact q_i h (rowAt_ok cq1 cq10 hn).symm | exact q_i h (rowAt_hi cq1 cq10 hn).symm | exact q_i h (rowAt_lo cq1).symm
theorem m_X5_put {l : Launch} {E : XEnv} {d k t n : Nat} {i x : Int32} {σ : XSt} {Q : XSt → Prop} (hk : E.2.1[k]? = some (.inl (5, [some t]))) (ht : E.2.1[t]? = some (.inr (.inl (0, n)))) (hn : n < 2 ^ 31) (h : Q (su σ t (rowPut (σ t) n i x))) : XMv l E d mX5_put [.ref (xad E k), .int i, .int x] σ Q := by
  refine xr_entry (lv := [some (.ref (xad E k)), some (.int i), some (.int x)]) (by decide +kernel) (by simp [Value.category]) (Nat.le_of_ble_eq_true rfl) rfl (fun w hw cx cz => ?_)
  subst hw
  refine xr_iload_1 cx dX5_put_0 ?_
  refine xr_if_lt (tgt := 20) cx dX5_put_1 (by decide) (fun cq1 => ?_) (fun cq1 => ?_)
  · refine xr_vret cx cz dX5_put_20 rfl ?_
    first | exact q_s h (by rw [rowPut_ok cq1 cq10 hn]) | exact q_s h (by rw [rowPut_hi cq1 cq10 hn, su_id]) | exact q_s h (by rw [rowPut_lo cq1, su_id])
  · refine xr_iload_1 cx dX5_put_4 ?_
    refine xr_aload_0 cx dX5_put_5 ?_
    refine xr_getR cx dX5_put_6 fl_X5_13 hk rfl ?_
    refine xr_alen cx dX5_put_9 ht (by decide) ?_
    refine xr_icmp_ge (tgt := 20) cx dX5_put_10 (by decide) (fun cq10 => ?_) (fun cq10 => ?_)
    · refine xr_vret cx cz dX5_put_20 rfl ?_
      first | exact q_s h (by rw [rowPut_ok cq1 cq10 hn]) | exact q_s h (by rw [rowPut_hi cq1 cq10 hn, su_id]) | exact q_s h (by rw [rowPut_lo cq1, su_id])
    · refine xr_aload_0 cx dX5_put_13 ?_
      refine xr_getR cx dX5_put_14 fl_X5_13 hk rfl ?_
      refine xr_iload_1 cx dX5_put_17 ?_
      refine xr_iload_2 cx dX5_put_18 ?_
      refine xr_iast cx dX5_put_19 ht (fun q => q.elim cq1 (fun q => cq10 ((x_cmp cq1 hn).mpr q))) ?_
      refine xr_vret cx cz dX5_put_20 rfl ?_
      first | exact q_s h (by rw [rowPut_ok cq1 cq10 hn]) | exact q_s h (by rw [rowPut_hi cq1 cq10 hn, su_id]) | exact q_s h (by rw [rowPut_lo cq1, su_id])
theorem m_X5_raise {l : Launch} {E : XEnv} {d k t n : Nat} {i : Int32} {σ : XSt} {Q : XSt → Prop} (hk : E.2.1[k]? = some (.inl (5, [some t]))) (ht : E.2.1[t]? = some (.inr (.inl (0, n)))) (hn : n < 2 ^ 31) (h : Q (su σ t (rowPut (σ t) n i (rowAt (σ t) n i + 1)))) : XMv l E (d + 1) mX5_raise [.ref (xad E k), .int i] σ Q := by
  refine xr_entry (lv := [some (.ref (xad E k)), some (.int i)]) (by decide +kernel) (by simp [Value.category]) (Nat.le_of_ble_eq_true rfl) rfl (fun w hw cx cz => ?_)
  subst hw
  refine xr_aload_0 cx dX5_raise_0 ?_
  refine xr_iload_1 cx dX5_raise_1 ?_
  refine xr_aload_0 cx dX5_raise_2 ?_
  refine xr_iload_1 cx dX5_raise_3 ?_
  refine xr_V1i (ν := mX5_at) cx dX5_raise_4 rfl ml_X5_19 vf_X5_at hk (Nat.le_of_ble_eq_true rfl) (m_X5_at hk ht hn ?_)
  refine xr_iconst (v := 1) cx dX5_raise_7 (by decide) ?_
  refine xr_iadd cx dX5_raise_8 ?_
  refine xr_V2v (ν := mX5_put) cx dX5_raise_9 rfl ml_X5_23 vf_X5_put hk (Nat.le_of_ble_eq_true rfl) (m_X5_put hk ht hn ?_)
  refine xr_vret cx cz dX5_raise_12 rfl ?_
  exact h
theorem m_X5_copyFrom {l : Launch} {E : XEnv} {d k t k2 t2 n : Nat} {σ : XSt} {Q : XSt → Prop} (hk : E.2.1[k]? = some (.inl (5, [some t]))) (ht : E.2.1[t]? = some (.inr (.inl (0, n)))) (hn : n < 2 ^ 31) (hk2 : E.2.1[k2]? = some (.inl (5, [some t2]))) (ht2 : E.2.1[t2]? = some (.inr (.inl (0, n)))) (h : Q (su σ t (σ t2))) : XMv l E (d + 1) mX5_copyFrom [.ref (xad E k), .ref (xad E k2)] σ Q := by
  refine xr_entry (lv := [some (.ref (xad E k)), some (.ref (xad E k2))]) (by decide +kernel) (by simp [Value.category]) (Nat.le_of_ble_eq_true rfl) rfl (fun w hw cx cz => ?_)
  subst hw
  have hm : (if nI n < nI n then nI n else nI n) = nI n := by split <;> rfl
  have hz : (nI n).toNatClampNeg = n := nI_clamp hn
  refine xr_aload_1 cx dX5_copyFrom_0 ?_
  refine xr_getR cx dX5_copyFrom_1 fl_X5_13 hk2 rfl ?_
  refine xr_iconst (v := 0) cx dX5_copyFrom_4 (by decide) ?_
  refine xr_aload_0 cx dX5_copyFrom_5 ?_
  refine xr_getR cx dX5_copyFrom_6 fl_X5_13 hk rfl ?_
  refine xr_iconst (v := 0) cx dX5_copyFrom_9 (by decide) ?_
  refine xr_aload_0 cx dX5_copyFrom_10 ?_
  refine xr_getR cx dX5_copyFrom_11 fl_X5_13 hk rfl ?_
  refine xr_alen cx dX5_copyFrom_14 ht (by decide) ?_
  refine xr_aload_1 cx dX5_copyFrom_15 ?_
  refine xr_getR cx dX5_copyFrom_16 fl_X5_13 hk2 rfl ?_
  refine xr_alen cx dX5_copyFrom_19 ht2 (by decide) ?_
  refine xr_mmin cx dX5_copyFrom_20 rfl ml_X5_27 (Nat.le_of_ble_eq_true rfl) ?_
  refine xr_copy cx dX5_copyFrom_23 rfl ml_X5_30 ht2 ht (by rw [hm]; exact nI_pos hn) (by rw [hm, hz]; exact Nat.le_refl _) (by rw [hm, hz]; exact Nat.le_refl _) (Nat.le_of_ble_eq_true rfl) ?_
  rw [hm, hz]
  refine xr_row (k := t) (σ t2) ht (fun j hj => by rw [su_same]; exact (pk_cpy_in (by omega) (by omega) (f := σ t2) (g := σ t) (sp := 0) (dp := 0) (n := n) (j := j)).symm ▸ (by simp)) ?_
  refine xr_vret cx cz dX5_copyFrom_26 rfl ?_
  exact q_s h (by rw [su_su])
def xbit (s : Nat) : Int32 := (1 : Int32) <<< (nI s &&& 31)
def xbitOf (x : Int32) : Int32 := if x < 0 ∨ 30 ≤ x then 0 else (1 : Int32) <<< (x &&& 31)
theorem xbitOf_in {s : Nat} (h : s < 30) : xbitOf (nI s) = xbit s := by
  unfold xbitOf xbit
  rw [if_neg]
  rintro (q | q)
  · exact nI_pos (by omega) q
  · exact nI_ge (a := s) (b := 30) h (by omega) q
theorem xbit_tst {x : Int32} {s : Nat} (hs : s < 32) : x &&& xbit s = 0 ↔ bt x s = false := b_tst hs
theorem bt_xbit {s : Nat} (hs : s < 32) {i : Nat} (hi : i < 32) : bt (xbit s) i = decide (i = s) := b_bit hs hi
theorem m_X8_bitOf {l : Launch} {E : XEnv} {d : Nat} {x : Int32} {σ : XSt} {Q : Int32 → XSt → Prop} (h : Q (xbitOf x) σ) : XMi l E d mX8_bitOf [.int x] σ Q := by
  refine xr_entry (lv := [some (.int x)]) (by decide +kernel) (by simp [Value.category]) (Nat.le_of_ble_eq_true rfl) rfl (fun w hw cx cz => ?_)
  subst hw
  refine xr_iload_0 cx dX8_bitOf_0 ?_
  refine xr_if_lt (tgt := 16) cx dX8_bitOf_1 (by decide) (fun cq1 => ?_) (fun cq1 => ?_)
  · refine xr_iconst (v := 0) cx dX8_bitOf_16 (by decide) ?_
    refine xr_iret cx cz dX8_bitOf_17 rfl ?_
    first | exact q_i h (if_neg (fun q => Or.elim q cq1 cq7)).symm | exact q_i h (if_pos (Or.inr cq7)).symm | exact q_i h (if_pos (Or.inl cq1)).symm
  · refine xr_iload_0 cx dX8_bitOf_4 ?_
    refine xr_bipush (v := 30) cx dX8_bitOf_5 (by decide) ?_
    refine xr_icmp_ge (tgt := 16) cx dX8_bitOf_7 (by decide) (fun cq7 => ?_) (fun cq7 => ?_)
    · refine xr_iconst (v := 0) cx dX8_bitOf_16 (by decide) ?_
      refine xr_iret cx cz dX8_bitOf_17 rfl ?_
      first | exact q_i h (if_neg (fun q => Or.elim q cq1 cq7)).symm | exact q_i h (if_pos (Or.inr cq7)).symm | exact q_i h (if_pos (Or.inl cq1)).symm
    · refine xr_iconst (v := 1) cx dX8_bitOf_10 (by decide) ?_
      refine xr_iload_0 cx dX8_bitOf_11 ?_
      refine xr_ishl cx dX8_bitOf_12 ?_
      refine xr_goto (tgt := 17) cx dX8_bitOf_13 (by decide) ?_
      refine xr_iret cx cz dX8_bitOf_17 rfl ?_
      first | exact q_i h (if_neg (fun q => Or.elim q cq1 cq7)).symm | exact q_i h (if_pos (Or.inr cq7)).symm | exact q_i h (if_pos (Or.inl cq1)).symm
theorem m_X8_columnOf {l : Launch} {E : XEnv} {d : Nat} {x : Int32} {σ : XSt} {Q : Int32 → XSt → Prop} (h : Q (x >>> ((1 : Int32) &&& 31)) σ) : XMi l E d mX8_columnOf [.int x] σ Q := by
  refine xr_entry (lv := [some (.int x)]) (by decide +kernel) (by simp [Value.category]) (Nat.le_of_ble_eq_true rfl) rfl (fun w hw cx cz => ?_)
  subst hw
  refine xr_iload_0 cx dX8_columnOf_0 ?_
  refine xr_iconst (v := 1) cx dX8_columnOf_1 (by decide) ?_
  refine xr_ishr cx dX8_columnOf_2 ?_
  refine xr_iret cx cz dX8_columnOf_3 rfl ?_
  exact h
theorem m_X8_isPanel {l : Launch} {E : XEnv} {d : Nat} {x : Int32} {σ : XSt} {Q : Int32 → XSt → Prop} (h : Q (if ¬ x < 0 ∧ x < 6 then 1 else 0) σ) : XMi l E d mX8_isPanel [.int x] σ Q := by
  refine xr_entry (lv := [some (.int x)]) (by decide +kernel) (by simp [Value.category]) (Nat.le_of_ble_eq_true rfl) rfl (fun w hw cx cz => ?_)
  subst hw
  refine xr_iload_0 cx dX8_isPanel_0 ?_
  refine xr_if_lt (tgt := 14) cx dX8_isPanel_1 (by decide) (fun cq1 => ?_) (fun cq1 => ?_)
  · refine xr_iconst (v := 0) cx dX8_isPanel_14 (by decide) ?_
    refine xr_zret cx cz dX8_isPanel_15 rfl rfl ?_
    first | exact q_i h (if_pos ⟨cq1, Int32.not_le.mp cq7⟩).symm | exact q_i h (if_neg (fun q => Int32.not_le.mpr q.2 cq7)).symm | exact q_i h (if_neg (fun q => q.1 cq1)).symm
  · refine xr_iload_0 cx dX8_isPanel_4 ?_
    refine xr_bipush (v := 6) cx dX8_isPanel_5 (by decide) ?_
    refine xr_icmp_ge (tgt := 14) cx dX8_isPanel_7 (by decide) (fun cq7 => ?_) (fun cq7 => ?_)
    · refine xr_iconst (v := 0) cx dX8_isPanel_14 (by decide) ?_
      refine xr_zret cx cz dX8_isPanel_15 rfl rfl ?_
      first | exact q_i h (if_pos ⟨cq1, Int32.not_le.mp cq7⟩).symm | exact q_i h (if_neg (fun q => Int32.not_le.mpr q.2 cq7)).symm | exact q_i h (if_neg (fun q => q.1 cq1)).symm
    · refine xr_iconst (v := 1) cx dX8_isPanel_10 (by decide) ?_
      refine xr_goto (tgt := 15) cx dX8_isPanel_11 (by decide) ?_
      refine xr_zret cx cz dX8_isPanel_15 rfl rfl ?_
      first | exact q_i h (if_pos ⟨cq1, Int32.not_le.mp cq7⟩).symm | exact q_i h (if_neg (fun q => Int32.not_le.mpr q.2 cq7)).symm | exact q_i h (if_neg (fun q => q.1 cq1)).symm
