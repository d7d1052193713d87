theorem upd_self (f : Nat → Int32) (k : Nat) : upd f k (f k) = f := by
  funext j
  by_cases h : j = k
  · subst h; rw [upd_same]
  · rw [upd_ne _ _ h]
theorem xr_gen {w : XO} {E : XEnv} {pc : Nat} {lv : List (Option Value)} {st : List Value} {σ : XSt} (P : XSt → Prop) (hp : P σ) (kk : ∀ ρ, P ρ → XG w E pc lv st ρ) : XG w E pc lv st σ := kk σ hp
/-- what the reference's reading of a text may change -/
def TG (σ τ : XSt) : Prop := (∀ c, c ≠ 0 → c ≠ 6 → c ≠ 7 → τ c = σ c) ∧ ∀ k, k ≠ 8 → k ≠ 11 → k ≠ 12 → τ 0 k = σ 0 k
theorem TG_rf (σ : XSt) : TG σ σ := ⟨fun _ _ _ _ => rfl, fun _ _ _ _ => rfl⟩
theorem TG_tr {σ τ ρ : XSt} (h : TG σ τ) (h2 : TG τ ρ) : TG σ ρ := ⟨fun c a b d => (h2.1 c a b d).trans (h.1 c a b d), fun c a b d => (h2.2 c a b d).trans (h.2 c a b d)⟩
theorem TG_0 {σ : XSt} {j : Nat} {v : Int32} (h : j = 8 ∨ j = 11 ∨ j = 12) : TG σ (su σ 0 (upd (σ 0) j v)) := ⟨fun c a _ _ => su_ne _ _ a, fun k a b d => by rw [su_same, upd_ne _ _ (by omega)]⟩
theorem TG_6 {σ : XSt} {f : Nat → Int32} : TG σ (su σ 6 f) := ⟨fun c _ b _ => su_ne _ _ b, fun k _ _ _ => by rw [su_ne _ _ (by decide)]⟩
theorem TG_7 {σ : XSt} {f : Nat → Int32} : TG σ (su σ 7 f) := ⟨fun c _ _ b => su_ne _ _ b, fun k _ _ _ => by rw [su_ne _ _ (by decide)]⟩
theorem MT_TG {σ τ : XSt} {t : Nat → Int32} {L : Nat} (h : MT σ t L) (g : TG σ τ) : MT τ t L := MT_fr h (g.2 7 (by decide) (by decide) (by decide)) (g.1 5 (by decide) (by decide) (by decide))
theorem MRel_TG {σ τ : XSt} {a : Nat → Int32} {hl : List (Nat → Int32)} {sn : Option (Nat → Int32)} {t : Nat → Int32} {L : Nat} (h : MRel σ a hl sn t L) (g : TG σ τ) : MRel τ a hl sn t L := ⟨(g.1 1 (by decide) (by decide) (by decide)).trans h.1, MH_fr h.2.1 (g.2 3 (by decide) (by decide) (by decide)) (g.1 3 (by decide) (by decide) (by decide)), MS_fr h.2.2.1 (g.2 5 (by decide) (by decide) (by decide)) (g.1 4 (by decide) (by decide) (by decide)), MT_TG h.2.2.2 g⟩
/-- the reference stands at place i, m steps read, F lines and needs as told -/
def xPk (σ : XSt) (i m F : Nat) (ln nd : Nat → Int32) : Prop := σ 0 8 = nI i ∧ σ 0 11 = nI m ∧ (∀ k, k < F → σ 6 k = ln k) ∧ ∀ k, k < F → σ 7 k = nd k
/-- the rest of the reading from place i on -/
def pRm (N : Nat) (t : Nat → Int32) (L i : Nat) (s : PS) : Nat ⊕ PS := pRun N t (L - i) i s
theorem pRm_end {N : Nat} {t : Nat → Int32} {L : Nat} {s : PS} : pRm N t L L s = .inr s := by
  unfold pRm
  rw [Nat.sub_self, pRun]
theorem pRm_go {N : Nat} {t : Nat → Int32} {L i : Nat} {s q : PS} (hi : i < L) (h : pStep N (t i) s = some q) : pRm N t L i s = pRm N t L (i + 1) q := by
  unfold pRm
  rw [show L - i = (L - (i + 1)) + 1 by omega, pRun, h]
theorem pRm_no {N : Nat} {t : Nat → Int32} {L i : Nat} {s : PS} (hi : i < L) (h : pStep N (t i) s = none) : pRm N t L i s = .inl i := by
  unfold pRm
  rw [show L - i = (L - (i + 1)) + 1 by omega, pRun, h]
theorem pStep_0 {N : Nat} {c : Int32} {s : PS} (h : s.1 = 0) : pStep N c s = if c - 48 < 1 ∨ 4 < c - 48 then none else some (1, s.2.1 + 1, s.2.2.1, upd s.2.2.2.1 s.2.1 (c - 48), upd s.2.2.2.2 s.2.1 0) := by
  unfold pStep
  rw [if_pos h]
theorem pStep_2 {N : Nat} {c : Int32} {s : PS} (h : s.1 = 2) : pStep N c s = if ¬ (48 ≤ c ∧ c ≤ 57) ∨ nI (N + s.2.1 - 1) ≤ c - 48 then none else some (if c - 48 = 0 then 4 else 3, s.2.1, c - 48, s.2.2.2.1, s.2.2.2.2) := by
  unfold pStep
  rw [if_neg (by omega), if_pos h]
theorem pStep_3 {N : Nat} {c : Int32} {s : PS} (h : s.1 = 3) (hd : 48 ≤ c ∧ c ≤ 57) : pStep N c s = if nI (N + s.2.1 - 1) ≤ 10 * s.2.2.1 + (c - 48) then none else some (4, s.2.1, 10 * s.2.2.1 + (c - 48), s.2.2.2.1, s.2.2.2.2) := by
  unfold pStep
  rw [if_neg (by omega), if_neg (by omega), if_pos ⟨h, hd⟩]
/-- the next character ends what is read, or starts what may follow, or is a fault -/
def pEnd (N : Nat) (c : Int32) (s : PS) : Prop := pStep N c s = if c = 59 ∨ c = (if s.1 = 1 then 60 else 44) then some (if c = 59 then 0 else 2, s.2.1, s.2.2.1, s.2.2.2.1, pNd s) else none
theorem pEnd_of {N : Nat} {c : Int32} {s : PS} (h0 : s.1 ≠ 0) (h2 : s.1 ≠ 2) (h : ¬ (s.1 = 3 ∧ (48 ≤ c ∧ c ≤ 57))) : pEnd N c s := by
  unfold pEnd pStep
  rw [if_neg h0, if_neg h2, if_neg h]
theorem pEnd_dig {N : Nat} {c : Int32} {s : PS} (h : s.1 = 3) (hd : 48 ≤ c ∧ c ≤ 57) (hn : pStep N c s = none) : pEnd N c s := by
  unfold pEnd
  rw [hn, if_neg]
  rintro (e | e)
  · rw [e] at hd; exact absurd hd.2 (by decide)
  · rw [e, h] at hd; exact absurd hd.1 (by decide)
theorem x_line {c : Int32} : (c - 48 < 1 ∨ 4 < c - 48) ↔ ¬ (49 ≤ c ∧ c ≤ 52) := by
  constructor
  · rintro h ⟨h1, h2⟩
    obtain ⟨e, he, e1, e2⟩ := x_digit (c := c) ⟨Int32.le_trans (by decide) h1, Int32.le_trans h2 (by decide)⟩
    rw [e1] at h
    rw [e2] at h1 h2
    have k1 := (nI_leI (a := 49) (b := e + 48) (by decide) (by omega)).mp h1
    have k2 := (nI_leI (a := e + 48) (b := 52) (by omega) (by decide)).mp h2
    rcases h with h | h
    · have := (nI_ltI (a := e) (b := 1) (by omega) (by decide)).mp h; omega
    · have := (nI_ltI (a := 4) (b := e) (by decide) (by omega)).mp h; omega
  · intro h
    by_cases c1 : c - 48 < 1
    · exact Or.inl c1
    · by_cases c2 : 4 < c - 48
      · exact Or.inr c2
      · exfalso
        refine h ?_
        obtain ⟨e, he, e1⟩ := nI_of (fun q => c1 (Int32.lt_trans q (by decide)) : ¬ c - 48 < 0)
        have hc : c = nI e + 48 := by rw [← e1, Int32.sub_add_cancel]
        rw [e1] at c1 c2
        have k1 := (nI_leI (a := 1) (b := e) (by decide) he).mp (Int32.not_lt.mp c1)
        have k2 := (nI_leI (a := e) (b := 4) he (by decide)).mp (Int32.not_lt.mp c2)
        have hc2 : c = nI (e + 48) := hc.trans (nI_add e 48)
        rw [hc2]
        exact ⟨nI_le (a := 49) (b := e + 48) (by omega) (by omega), nI_le (a := e + 48) (b := 52) (by omega) (by decide)⟩
theorem x_assoc (x c : Int32) : x + c - 48 = x + (c - 48) := by
  rw [Int32.sub_eq_add_neg, Int32.sub_eq_add_neg, Int32.add_assoc]
theorem m_X9_isHere {l : Launch} {E : XEnv} {d : Nat} {σ : XSt} {Q : Int32 → XSt → Prop} (hG : xGl E) {x y : Int32} {t : Nat → Int32} {L i : Nat} (hT : MT σ t L) (hs : σ 0 8 = nI i) (hi : i ≤ L)  (h : Q (if i < L ∧ x ≤ t i ∧ t i ≤ y then 1 else 0) σ) : XMi l E (d + 1) mX9_isHere [.ref (xad E 0), .int x, .int y] σ Q := by
  have g0 := hG.1
  have g1 := hG.2.1
  have g2 := hG.2.2.1
  have g3 := hG.2.2.2.1
  have g4 := hG.2.2.2.2.1
  have g5 := hG.2.2.2.2.2.1
  have g6 := hG.2.2.2.2.2.2.1
  have g7 := hG.2.2.2.2.2.2.2.1
  have hL60 := hT.2.1
  refine xr_entry (lv := [some (.ref (xad E 0)), some (.int x), some (.int y)]) (by decide +kernel) (by simp [Value.category]) (Nat.le_of_ble_eq_true rfl) rfl (fun w hw cx cz => ?_)
  subst hw
  refine xr_aload_0 cx dX9_isHere_0 ?_
  refine xr_getI cx dX9_isHere_1 fl_X9_110 g0 rfl ?_
  rw [hs]
  refine xr_aload_0 cx dX9_isHere_4 ?_
  refine xr_getI cx dX9_isHere_5 fl_X9_107 g0 rfl ?_
  rw [hT.1]
  refine xr_icmp_ge (tgt := 35) cx dX9_isHere_8 (by decide) (fun cq8 => ?_) (fun cq8 => ?_)
  · have hc : ¬ (i < L ∧ x ≤ t i ∧ t i ≤ y) := fun q => nI_ge q.1 (by omega) cq8
    refine xr_iconst (v := 0) cx dX9_isHere_35 (by decide) ?_
    refine xr_zret cx cz dX9_isHere_36 rfl rfl ?_
    first | exact q_i h (if_neg hc).symm | exact q_i h (if_pos hc).symm
  · have hlt : i < L := by
      rcases Nat.lt_or_ge i L with q | q
      · exact q
      · exact absurd (nI_le q (by omega)) cq8
    refine xr_aload_0 cx dX9_isHere_11 ?_
    refine xr_getR cx dX9_isHere_12 fl_X9_22 g0 rfl ?_
    refine xr_aload_0 cx dX9_isHere_15 ?_
    refine xr_getI cx dX9_isHere_16 fl_X9_110 g0 rfl ?_
    rw [hs]
    refine xr_ialdN (j := i) cx dX9_isHere_19 g5 rfl (by omega) (by decide) ?_
    rw [hT.2.2 i hlt]
    refine xr_i2l cx dX9_isHere_20 ?_
    refine xr_iload_1 cx dX9_isHere_21 ?_
    refine xr_i2l cx dX9_isHere_22 ?_
    refine xr_iload_2 cx dX9_isHere_23 ?_
    refine xr_i2l cx dX9_isHere_24 ?_
    refine xr_S3i (ν := mX9_in) cx dX9_isHere_25 rfl ml_X9_37 sf_X9_in (Nat.le_of_ble_eq_true rfl) (m_X9_in ?_)
    refine xr_if_eq (tgt := 35) cx dX9_isHere_28 (by decide) (fun cq28 => ?_) (fun cq28 => ?_)
    · have hc : ¬ (i < L ∧ x ≤ t i ∧ t i ≤ y) := fun q => by
        rw [if_neg (fun z => (x64_in.mp z).elim (fun z => Int32.not_lt.mpr q.2.1 z) (fun z => Int32.not_lt.mpr q.2.2 z))] at cq28
        exact absurd cq28 (by decide)
      refine xr_iconst (v := 0) cx dX9_isHere_35 (by decide) ?_
      refine xr_zret cx cz dX9_isHere_36 rfl rfl ?_
      first | exact q_i h (if_neg hc).symm | exact q_i h (if_pos hc).symm
    · have hc : i < L ∧ x ≤ t i ∧ t i ≤ y := by
        by_cases z : (t i).toInt64 < x.toInt64 ∨ y.toInt64 < (t i).toInt64
        · rw [if_pos z] at cq28; exact absurd rfl cq28
        · have z2 := fun q => z (x64_in.mpr q)
          exact ⟨hlt, Int32.not_lt.mp (fun q => z2 (Or.inl q)), Int32.not_lt.mp (fun q => z2 (Or.inr q))⟩
      refine xr_iconst (v := 1) cx dX9_isHere_31 (by decide) ?_
      refine xr_goto (tgt := 36) cx dX9_isHere_32 (by decide) ?_
      refine xr_zret cx cz dX9_isHere_36 rfl rfl ?_
      first | exact q_i h (if_neg hc).symm | exact q_i h (if_pos hc).symm
theorem m_X9_takes_y {l : Launch} {E : XEnv} {d : Nat} {σ : XSt} {Q : Int32 → XSt → Prop} (hG : xGl E) {x : Int32} {t : Nat → Int32} {L i : Nat} (hT : MT σ t L) (hs : σ 0 8 = nI i) (hi : i ≤ L) (hc : i < L ∧ t i = x) (h : Q 1 (su σ 0 (upd (σ 0) 8 (nI (i + 1))))) : XMi l E (d + 2) mX9_takes [.ref (xad E 0), .int x] σ Q := by
  have g0 := hG.1
  have g1 := hG.2.1
  have g2 := hG.2.2.1
  have g3 := hG.2.2.2.1
  have g4 := hG.2.2.2.2.1
  have g5 := hG.2.2.2.2.2.1
  have g6 := hG.2.2.2.2.2.2.1
  have g7 := hG.2.2.2.2.2.2.2.1
  refine xr_entry (lv := [some (.ref (xad E 0)), some (.int x), none]) (by decide +kernel) (by simp [Value.category]) (Nat.le_of_ble_eq_true rfl) rfl (fun w hw cx cz => ?_)
  subst hw
  refine xr_aload_0 cx dX9_takes_0 ?_
  refine xr_iload_1 cx dX9_takes_1 ?_
  refine xr_iload_1 cx dX9_takes_2 ?_
  refine xr_V2i (ν := mX9_isHere) cx dX9_takes_3 rfl ml_X9_113 vf_X9_isHere g0 (Nat.le_of_ble_eq_true rfl) (m_X9_isHere hG hT hs hi ?_)
  rw [if_pos ⟨hc.1, by rw [hc.2]; exact Int32.le_refl _, by rw [hc.2]; exact Int32.le_refl _⟩]
  refine xr_istore_2 cx dX9_takes_6 ?_
  refine xr_aload_0 cx dX9_takes_7 ?_
  refine xr_dup cx dX9_takes_8 rfl ?_
  refine xr_getI cx dX9_takes_9 fl_X9_110 g0 rfl ?_
  rw [hs]
  refine xr_iload_2 cx dX9_takes_12 ?_
  refine xr_if_eq (tgt := 20) cx dX9_takes_13 (by decide) (fun cq13 => ?_) (fun cq13 => ?_)
  · exact absurd cq13 (by decide)
  · refine xr_iconst (v := 1) cx dX9_takes_16 (by decide) ?_
    refine xr_goto (tgt := 21) cx dX9_takes_17 (by decide) ?_
    refine xr_iadd cx dX9_takes_21 ?_
    rw [nI_1]
    refine xr_putI cx dX9_takes_22 fp_X9_110 g0 rfl ?_
    refine xr_iload_2 cx dX9_takes_25 ?_
    refine xr_zret cx cz dX9_takes_26 rfl rfl ?_
    exact h
theorem m_X9_takes_n {l : Launch} {E : XEnv} {d : Nat} {σ : XSt} {Q : Int32 → XSt → Prop} (hG : xGl E) {x : Int32} {t : Nat → Int32} {L i : Nat} (hT : MT σ t L) (hs : σ 0 8 = nI i) (hi : i ≤ L) (hc : ¬ (i < L ∧ t i = x)) (h : Q 0 σ) : XMi l E (d + 2) mX9_takes [.ref (xad E 0), .int x] σ Q := by
  have g0 := hG.1
  have g1 := hG.2.1
  have g2 := hG.2.2.1
  have g3 := hG.2.2.2.1
  have g4 := hG.2.2.2.2.1
  have g5 := hG.2.2.2.2.2.1
  have g6 := hG.2.2.2.2.2.2.1
  have g7 := hG.2.2.2.2.2.2.2.1
  refine xr_entry (lv := [some (.ref (xad E 0)), some (.int x), none]) (by decide +kernel) (by simp [Value.category]) (Nat.le_of_ble_eq_true rfl) rfl (fun w hw cx cz => ?_)
  subst hw
  refine xr_aload_0 cx dX9_takes_0 ?_
  refine xr_iload_1 cx dX9_takes_1 ?_
  refine xr_iload_1 cx dX9_takes_2 ?_
  refine xr_V2i (ν := mX9_isHere) cx dX9_takes_3 rfl ml_X9_113 vf_X9_isHere g0 (Nat.le_of_ble_eq_true rfl) (m_X9_isHere hG hT hs hi ?_)
  rw [if_neg (fun q => hc ⟨q.1, Int32.le_antisymm q.2.2 q.2.1⟩)]
  refine xr_istore_2 cx dX9_takes_6 ?_
  refine xr_aload_0 cx dX9_takes_7 ?_
  refine xr_dup cx dX9_takes_8 rfl ?_
  refine xr_getI cx dX9_takes_9 fl_X9_110 g0 rfl ?_
  refine xr_iload_2 cx dX9_takes_12 ?_
  refine xr_if_eq (tgt := 20) cx dX9_takes_13 (by decide) (fun cq13 => ?_) (fun cq13 => ?_)
  · refine xr_iconst (v := 0) cx dX9_takes_20 (by decide) ?_
    refine xr_iadd cx dX9_takes_21 ?_
    refine xr_putI cx dX9_takes_22 fp_X9_110 g0 rfl ?_
    refine xr_iload_2 cx dX9_takes_25 ?_
    refine xr_zret cx cz dX9_takes_26 rfl rfl ?_
    exact q_is h rfl (by rw [Int32.add_zero, upd_self, su_id])
  · exact absurd rfl cq13
theorem m_X9_readsNumber {l : Launch} {E : XEnv} {d : Nat} {σ : XSt} {Q : Int32 → XSt → Prop} (hG : xGl E) {t : Nat → Int32} {L i : Nat} (hT : MT σ t L) (hs : σ 0 8 = nI i) (hi : i ≤ L) {N : Nat} {s : PS} (hN : N ≤ 30) (hb : pBnd s) (s2 : s.1 = 2) (hf : pAns L (pRm N t L i s) = nI i → Q 0 σ) (h : ∀ (τ : XSt) (j p v : Nat), TG σ τ → τ 0 11 = σ 0 11 → τ 6 = σ 6 → τ 7 = σ 7 → i < j → j ≤ L → τ 0 8 = nI j → τ 0 12 = nI v → v < 100 → pRm N t L i s = pRm N t L j (p, s.2.1, nI v, s.2.2.2.1, s.2.2.2.2) → (p = 3 ∨ p = 4) → (j < L → pEnd N (t j) (p, s.2.1, nI v, s.2.2.2.1, s.2.2.2.2)) → Q 1 τ) : XMi l E (d + 2) mX9_readsNumber [.ref (xad E 0), .int (nI (N + s.2.1 - 1))] σ Q := by
  have g0 := hG.1
  have g1 := hG.2.1
  have g2 := hG.2.2.1
  have g3 := hG.2.2.2.1
  have g4 := hG.2.2.2.2.1
  have g5 := hG.2.2.2.2.2.1
  have g6 := hG.2.2.2.2.2.2.1
  have g7 := hG.2.2.2.2.2.2.2.1
  have hL60 := hT.2.1
  refine xr_entry (lv := [some (.ref (xad E 0)), some (.int (nI (N + s.2.1 - 1)))]) (by decide +kernel) (by simp [Value.category]) (Nat.le_of_ble_eq_true rfl) rfl (fun w hw cx cz => ?_)
  subst hw
  refine xr_aload_0 cx dX9_readsNumber_0 ?_
  refine xr_bipush (v := 48) cx dX9_readsNumber_1 (by decide) ?_
  refine xr_bipush (v := 57) cx dX9_readsNumber_3 (by decide) ?_
  refine xr_V2i (ν := mX9_isHere) cx dX9_readsNumber_5 rfl ml_X9_113 vf_X9_isHere g0 (Nat.le_of_ble_eq_true rfl) (m_X9_isHere hG hT hs hi ?_)
  refine xr_if_eq (tgt := 27) cx dX9_readsNumber_8 (by decide) (fun cq8 => ?_) (fun cq8 => ?_)
  · have hd : ¬ (i < L ∧ 48 ≤ t i ∧ t i ≤ 57) := fun q => by rw [if_pos q] at cq8; exact absurd cq8 (by decide)
    have hfa : pAns L (pRm N t L i s) = nI i := by
      rcases Nat.lt_or_ge i L with q | q
      · rw [pRm_no q (by rw [pStep_2 s2, if_pos (Or.inl (fun z => hd ⟨q, z⟩))])]; rfl
      · obtain rfl : i = L := by omega
        rw [pRm_end]; exact if_pos (Or.inr s2)
    refine xr_iconst (v := 0) cx dX9_readsNumber_27 (by decide) ?_
    refine xr_zret cx cz dX9_readsNumber_28 rfl rfl ?_
    exact hf hfa
  · have hd : i < L ∧ 48 ≤ t i ∧ t i ≤ 57 := by by_cases q : i < L ∧ 48 ≤ t i ∧ t i ≤ 57; exact q; rw [if_neg q] at cq8; exact absurd rfl cq8
    obtain ⟨hlt, hdg⟩ := hd
    obtain ⟨e, he, e1, e2⟩ := x_digit hdg
    refine xr_aload_0 cx dX9_readsNumber_11 ?_
    refine xr_getR cx dX9_readsNumber_12 fl_X9_22 g0 rfl ?_
    refine xr_aload_0 cx dX9_readsNumber_15 ?_
    refine xr_getI cx dX9_readsNumber_16 fl_X9_110 g0 rfl ?_
    rw [hs]
    refine xr_ialdN (j := i) cx dX9_readsNumber_19 g5 rfl (by omega) (by decide) ?_
    rw [hT.2.2 i hlt]
    refine xr_bipush (v := 48) cx dX9_readsNumber_20 (by decide) ?_
    refine xr_isub cx dX9_readsNumber_22 ?_
    refine xr_iload_1 cx dX9_readsNumber_23 ?_
    refine xr_icmp_lt (tgt := 29) cx dX9_readsNumber_24 (by decide) (fun cq24 => ?_) (fun cq24 => ?_)
    · have hgo := pRm_go hlt ((pStep_2 (N := N) (c := t i) s2).trans (if_neg (fun q => Or.elim q (fun q => q hdg) (fun q => Int32.not_lt.mpr q cq24))))
      rw [e1] at hgo
      refine xr_aload_0 cx dX9_readsNumber_29 ?_
      refine xr_aload_0 cx dX9_readsNumber_30 ?_
      refine xr_getR cx dX9_readsNumber_31 fl_X9_22 g0 rfl ?_
      refine xr_aload_0 cx dX9_readsNumber_34 ?_
      refine xr_getI cx dX9_readsNumber_35 fl_X9_110 g0 rfl ?_
      rw [hs]
      refine xr_ialdN (j := i) cx dX9_readsNumber_38 g5 rfl (by omega) (by decide) ?_
      rw [hT.2.2 i hlt]
      refine xr_bipush (v := 48) cx dX9_readsNumber_39 (by decide) ?_
      refine xr_isub cx dX9_readsNumber_41 ?_
      rw [e1]
      refine xr_putI cx dX9_readsNumber_42 fp_X9_117 g0 rfl ?_
      refine xr_aload_0 cx dX9_readsNumber_45 ?_
      refine xr_dup cx dX9_readsNumber_46 rfl ?_
      refine xr_getI cx dX9_readsNumber_47 fl_X9_110 g0 rfl ?_
      rw [su_same, upd_ne _ _ (by decide), hs]
      refine xr_iconst (v := 1) cx dX9_readsNumber_50 (by decide) ?_
      refine xr_iadd cx dX9_readsNumber_51 ?_
      rw [nI_1]
      refine xr_putI cx dX9_readsNumber_52 fp_X9_110 g0 rfl ?_
      refine xr_gen (fun ρ => TG σ ρ ∧ ρ 0 11 = σ 0 11 ∧ ρ 6 = σ 6 ∧ ρ 7 = σ 7 ∧ ρ 0 8 = nI (i + 1) ∧ ρ 0 12 = nI e) ⟨TG_tr (TG_0 (Or.inr (Or.inr rfl))) (TG_0 (Or.inl rfl)), by rw [su_same, upd_ne _ _ (by decide), su_same, upd_ne _ _ (by decide)], by rw [su_ne _ _ (by decide), su_ne _ _ (by decide)], by rw [su_ne _ _ (by decide), su_ne _ _ (by decide)], by rw [su_same, upd_same], by rw [su_same, upd_ne _ _ (by decide), su_same, upd_same]⟩ (fun ρ hr => ?_)
      obtain ⟨r1, r2, r3, r4, r5, r6⟩ := hr
      have hTr := MT_TG hT r1
      refine xr_aload_0 cx dX9_readsNumber_55 ?_
      refine xr_getI cx dX9_readsNumber_56 fl_X9_117 g0 rfl ?_
      rw [r6]
      refine xr_if_le (tgt := 131) cx dX9_readsNumber_59 (by decide) (fun cq59 => ?_) (fun cq59 => ?_)
      · have h0 : e = 0 := by
          have := (nI_leI (a := e) (b := 0) (by omega) (by decide)).mp cq59
          omega
        subst h0
        rw [if_pos (show nI 0 = 0 from rfl)] at hgo
        have hE := h ρ (i + 1) 4 0 r1 r2 r3 r4 (by omega) (by omega) r5 r6 (by omega) hgo (Or.inr rfl) (fun q => pEnd_of (show (4 : Nat) ≠ 0 by decide) (show (4 : Nat) ≠ 2 by decide) (fun z => absurd (show (4 : Nat) = 3 from z.1) (by decide)))
        refine xr_iconst (v := 1) cx dX9_readsNumber_131 (by decide) ?_
        refine xr_zret cx cz dX9_readsNumber_132 rfl rfl ?_
        first | exact hE | exact h _ (i + 2) 4 (10 * e + e3) (TG_tr r1 (TG_tr (TG_0 (Or.inr (Or.inr rfl))) (TG_0 (Or.inl rfl)))) (by rw [su_same, upd_ne _ _ (by decide), su_same, upd_ne _ _ (by decide), r2]) (by rw [su_ne _ _ (by decide), su_ne _ _ (by decide), r3]) (by rw [su_ne _ _ (by decide), su_ne _ _ (by decide), r4]) (by omega) (by omega) (by rw [su_same, upd_same]) (by rw [su_same, upd_ne _ _ (by decide), su_same, upd_same]) (by omega) hgo2 (Or.inr rfl) (fun q => pEnd_of (show (4 : Nat) ≠ 0 by decide) (show (4 : Nat) ≠ 2 by decide) (fun z => absurd (show (4 : Nat) = 3 from z.1) (by decide)))
      · have h0 : ¬ e = 0 := fun q => cq59 (by rw [q]; exact Int32.le_refl _)
        rw [if_neg (nI_ne0 (by omega) (by omega))] at hgo
        refine xr_aload_0 cx dX9_readsNumber_62 ?_
        refine xr_bipush (v := 48) cx dX9_readsNumber_63 (by decide) ?_
        refine xr_bipush (v := 57) cx dX9_readsNumber_65 (by decide) ?_
        refine xr_V2i (ν := mX9_isHere) cx dX9_readsNumber_67 rfl ml_X9_113 vf_X9_isHere g0 (Nat.le_of_ble_eq_true rfl) (m_X9_isHere hG hTr r5 (by omega) ?_)
        refine xr_if_eq (tgt := 131) cx dX9_readsNumber_70 (by decide) (fun cq70 => ?_) (fun cq70 => ?_)
        · have hd2 : ¬ (i + 1 < L ∧ 48 ≤ t (i + 1) ∧ t (i + 1) ≤ 57) := fun q => by rw [if_pos q] at cq70; exact absurd cq70 (by decide)
          have hE := h ρ (i + 1) 3 e r1 r2 r3 r4 (by omega) (by omega) r5 r6 (by omega) hgo (Or.inl rfl) (fun q => pEnd_of (show (3 : Nat) ≠ 0 by decide) (show (3 : Nat) ≠ 2 by decide) (fun z => hd2 ⟨q, z.2⟩))
          refine xr_iconst (v := 1) cx dX9_readsNumber_131 (by decide) ?_
          refine xr_zret cx cz dX9_readsNumber_132 rfl rfl ?_
          first | exact hE | exact h _ (i + 2) 4 (10 * e + e3) (TG_tr r1 (TG_tr (TG_0 (Or.inr (Or.inr rfl))) (TG_0 (Or.inl rfl)))) (by rw [su_same, upd_ne _ _ (by decide), su_same, upd_ne _ _ (by decide), r2]) (by rw [su_ne _ _ (by decide), su_ne _ _ (by decide), r3]) (by rw [su_ne _ _ (by decide), su_ne _ _ (by decide), r4]) (by omega) (by omega) (by rw [su_same, upd_same]) (by rw [su_same, upd_ne _ _ (by decide), su_same, upd_same]) (by omega) hgo2 (Or.inr rfl) (fun q => pEnd_of (show (4 : Nat) ≠ 0 by decide) (show (4 : Nat) ≠ 2 by decide) (fun z => absurd (show (4 : Nat) = 3 from z.1) (by decide)))
        · have hd2 : i + 1 < L ∧ 48 ≤ t (i + 1) ∧ t (i + 1) ≤ 57 := by by_cases q : i + 1 < L ∧ 48 ≤ t (i + 1) ∧ t (i + 1) ≤ 57; exact q; rw [if_neg q] at cq70; exact absurd rfl cq70
          obtain ⟨hlt2, hdg2⟩ := hd2
          obtain ⟨e3, he3, e4, e5⟩ := x_digit hdg2
          refine xr_bipush (v := 10) cx dX9_readsNumber_73 (by decide) ?_
          refine xr_aload_0 cx dX9_readsNumber_75 ?_
          refine xr_getI cx dX9_readsNumber_76 fl_X9_117 g0 rfl ?_
          rw [r6]
          refine xr_imul cx dX9_readsNumber_79 ?_
          refine xr_aload_0 cx dX9_readsNumber_80 ?_
          refine xr_getR cx dX9_readsNumber_81 fl_X9_22 g0 rfl ?_
          refine xr_aload_0 cx dX9_readsNumber_84 ?_
          refine xr_getI cx dX9_readsNumber_85 fl_X9_110 g0 rfl ?_
          rw [r5]
          refine xr_ialdN (j := i + 1) cx dX9_readsNumber_88 g5 rfl (by omega) (by decide) ?_
          rw [hTr.2.2 (i + 1) hlt2]
          refine xr_iadd cx dX9_readsNumber_89 ?_
          refine xr_bipush (v := 48) cx dX9_readsNumber_90 (by decide) ?_
          refine xr_isub cx dX9_readsNumber_92 ?_
          rw [x_assoc]
          refine xr_iload_1 cx dX9_readsNumber_93 ?_
          refine xr_icmp_ge (tgt := 131) cx dX9_readsNumber_94 (by decide) (fun cq94 => ?_) (fun cq94 => ?_)
          · have hE := h ρ (i + 1) 3 e r1 r2 r3 r4 (by omega) (by omega) r5 r6 (by omega) hgo (Or.inl rfl) (fun q => pEnd_dig rfl hdg2 ((pStep_3 rfl hdg2).trans (if_pos cq94)))
            refine xr_iconst (v := 1) cx dX9_readsNumber_131 (by decide) ?_
            refine xr_zret cx cz dX9_readsNumber_132 rfl rfl ?_
            first | exact hE | exact h _ (i + 2) 4 (10 * e + e3) (TG_tr r1 (TG_tr (TG_0 (Or.inr (Or.inr rfl))) (TG_0 (Or.inl rfl)))) (by rw [su_same, upd_ne _ _ (by decide), su_same, upd_ne _ _ (by decide), r2]) (by rw [su_ne _ _ (by decide), su_ne _ _ (by decide), r3]) (by rw [su_ne _ _ (by decide), su_ne _ _ (by decide), r4]) (by omega) (by omega) (by rw [su_same, upd_same]) (by rw [su_same, upd_ne _ _ (by decide), su_same, upd_same]) (by omega) hgo2 (Or.inr rfl) (fun q => pEnd_of (show (4 : Nat) ≠ 0 by decide) (show (4 : Nat) ≠ 2 by decide) (fun z => absurd (show (4 : Nat) = 3 from z.1) (by decide)))
          · have hgo2 := hgo.trans (pRm_go hlt2 ((pStep_3 (N := N) rfl hdg2).trans (if_neg cq94)))
            have hv : 10 * nI e + (t (i + 1) - 48) = nI (10 * e + e3) := by rw [e4, show (10 : Int32) * nI e = nI (10 * e) from pk_mul 10 e, nI_add]
            simp only [hv] at hgo2
            refine xr_aload_0 cx dX9_readsNumber_97 ?_
            refine xr_bipush (v := 10) cx dX9_readsNumber_98 (by decide) ?_
            refine xr_aload_0 cx dX9_readsNumber_100 ?_
            refine xr_getI cx dX9_readsNumber_101 fl_X9_117 g0 rfl ?_
            rw [r6]
            refine xr_imul cx dX9_readsNumber_104 ?_
            refine xr_aload_0 cx dX9_readsNumber_105 ?_
            refine xr_getR cx dX9_readsNumber_106 fl_X9_22 g0 rfl ?_
            refine xr_aload_0 cx dX9_readsNumber_109 ?_
            refine xr_getI cx dX9_readsNumber_110 fl_X9_110 g0 rfl ?_
            rw [r5]
            refine xr_ialdN (j := i + 1) cx dX9_readsNumber_113 g5 rfl (by omega) (by decide) ?_
            rw [hTr.2.2 (i + 1) hlt2]
            refine xr_iadd cx dX9_readsNumber_114 ?_
            refine xr_bipush (v := 48) cx dX9_readsNumber_115 (by decide) ?_
            refine xr_isub cx dX9_readsNumber_117 ?_
            rw [x_assoc, hv]
            refine xr_putI cx dX9_readsNumber_118 fp_X9_117 g0 rfl ?_
            refine xr_aload_0 cx dX9_readsNumber_121 ?_
            refine xr_dup cx dX9_readsNumber_122 rfl ?_
            refine xr_getI cx dX9_readsNumber_123 fl_X9_110 g0 rfl ?_
            rw [su_same, upd_ne _ _ (by decide), r5]
            refine xr_iconst (v := 1) cx dX9_readsNumber_126 (by decide) ?_
            refine xr_iadd cx dX9_readsNumber_127 ?_
            rw [nI_1]
            refine xr_putI cx dX9_readsNumber_128 fp_X9_110 g0 rfl ?_
            refine xr_iconst (v := 1) cx dX9_readsNumber_131 (by decide) ?_
            refine xr_zret cx cz dX9_readsNumber_132 rfl rfl ?_
            first | exact hE | exact h _ (i + 2) 4 (10 * e + e3) (TG_tr r1 (TG_tr (TG_0 (Or.inr (Or.inr rfl))) (TG_0 (Or.inl rfl)))) (by rw [su_same, upd_ne _ _ (by decide), su_same, upd_ne _ _ (by decide), r2]) (by rw [su_ne _ _ (by decide), su_ne _ _ (by decide), r3]) (by rw [su_ne _ _ (by decide), su_ne _ _ (by decide), r4]) (by omega) (by omega) (by rw [su_same, upd_same]) (by rw [su_same, upd_ne _ _ (by decide), su_same, upd_same]) (by omega) hgo2 (Or.inr rfl) (fun q => pEnd_of (show (4 : Nat) ≠ 0 by decide) (show (4 : Nat) ≠ 2 by decide) (fun z => absurd (show (4 : Nat) = 3 from z.1) (by decide)))
    · have hfa : pAns L (pRm N t L i s) = nI i := by rw [pRm_no hlt (by rw [pStep_2 s2, if_pos (Or.inr (Int32.not_lt.mp cq24))])]; rfl
      refine xr_iconst (v := 0) cx dX9_readsNumber_27 (by decide) ?_
      refine xr_zret cx cz dX9_readsNumber_28 rfl rfl ?_
      exact hf hfa
