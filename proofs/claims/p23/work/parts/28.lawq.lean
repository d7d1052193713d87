section XL
variable {d : Nat} {w : XO} {E : XEnv} {μ : XMt} {pc : Nat} {lv : List (Option Value)} {st r : List Value} {σ : XSt}
theorem xr_ldc {idx : Nat} {v : Int32} (cx : CX d w E μ) (hd : decode μ.2.1 pc = .ok (.ldc idx, 2)) (hc : Cond.constant μ.1.cls idx v ∈ lw_good) (k : XG w E (pc + 2) lv (.int v :: r) σ) : XG w E pc lv (r) σ := by
  obtain ⟨p, l, e, R, s, m, args, below, meth, c, A, cells, slots, Z⟩ := w
  intro H locs ls hP hS hl
  exact lv_ldc cx.1 cx.2.1 cx.2.2.2.1 (cx.2.2.2.2.1 _ hc) hd (k H locs ls hP hS hl)
end XL
/-! THE LAW'S OWN SMALL METHODS -/
theorem lp_L_bits {E : XEnv} {d : Nat} {σ : XSt} {Q : Int32 → XSt → Prop} {w : XO} {x : Int32} (cx : CX d w E mL_bits) (cz : CZi w E Q) : ∀ n i (y : Int32), i + n = 30 → Q (xit (fun k (acc : Int32) => acc + (x >>> (nI k &&& 31) &&& 1)) n i y) σ → XG w E 4 [some (.int x), some (.int y), some (.int (nI i))] [] σ := by
  intro n
  induction n with
  | zero =>
    intro i y hi h
    obtain rfl : i = 30 := by omega
    refine xr_iload_2 cx dL_bits_4 ?_
    refine xr_bipush (v := 30) cx dL_bits_5 (by decide) ?_
    refine xr_icmp_ge (tgt := 24) cx dL_bits_7 (by decide) (fun cq7 => ?_) (fun cq7 => ?_)
    · refine xr_iload_1 cx dL_bits_24 ?_
      refine xr_iret cx cz dL_bits_25 rfl ?_
      exact h
    · exact absurd (Int32.le_refl 30) cq7
  | succ n ih =>
    intro i y hi h
    refine xr_iload_2 cx dL_bits_4 ?_
    refine xr_bipush (v := 30) cx dL_bits_5 (by decide) ?_
    refine xr_icmp_ge (tgt := 24) cx dL_bits_7 (by decide) (fun cq7 => ?_) (fun cq7 => ?_)
    · exact absurd cq7 (nI_ge (a := i) (b := 30) (by omega) (by decide))
    · refine xr_iload_1 cx dL_bits_10 ?_
      refine xr_iload_0 cx dL_bits_11 ?_
      refine xr_iload_2 cx dL_bits_12 ?_
      refine xr_ishr cx dL_bits_13 ?_
      refine xr_iconst (v := 1) cx dL_bits_14 (by decide) ?_
      refine xr_iand cx dL_bits_15 ?_
      refine xr_iadd cx dL_bits_16 ?_
      refine xr_istore_1 cx dL_bits_17 ?_
      refine xr_iinc_2 (y := 1) cx dL_bits_18 (by decide) ?_
      refine xr_goto (tgt := 4) cx dL_bits_21 (by decide) ?_
      rw [nI_1]
      exact ih (i + 1) _ (by omega) h
theorem m_L_bits {l : Launch} {E : XEnv} {d : Nat} {σ : XSt} {Q : Int32 → XSt → Prop} {x : Int32} (h : Q (zBits x) σ) : XMi l E d mL_bits [.int x] σ Q := by
  refine xr_entry (lv := [some (.int x), none, none]) (by decide +kernel) (by simp [Value.category]) (Nat.le_of_ble_eq_true rfl) rfl (fun w hw cx cz => ?_)
  subst hw
  refine xr_iconst (v := 0) cx dL_bits_0 (by decide) ?_
  refine xr_istore_1 cx dL_bits_1 ?_
  refine xr_iconst (v := 0) cx dL_bits_2 (by decide) ?_
  refine xr_istore_2 cx dL_bits_3 ?_
  exact lp_L_bits cx cz 30 0 0 rfl h
theorem m_L_up {l : Launch} {E : XEnv} {d : Nat} {σ : XSt} {Q : Int32 → XSt → Prop} {x n0 : Int32} (n : Nat) (hn0 : n0 = nI n) (hn : 0 < n) (hn2 : n < 2 ^ 31) (h : ∀ j, j < n → Q (nI j) σ) : XMi l E d mL_up [.int x, .int n0] σ Q := by
  subst hn0
  obtain ⟨j, hj, ej⟩ := pk_andE x (m := 2147483647) 31 (by decide)
  refine xr_entry (lv := [some (.int x), some (.int (nI n))]) (by decide +kernel) (by simp [Value.category]) (Nat.le_of_ble_eq_true rfl) rfl (fun w hw cx cz => ?_)
  subst hw
  refine xr_iload_0 cx dL_up_0 ?_
  refine xr_ldc cx dL_up_1 kc_L_8 ?_
  refine xr_iand cx dL_up_3 ?_
  rw [ej]
  refine xr_iload_1 cx dL_up_4 ?_
  refine xr_irem cx dL_up_5 (nI_ne0 hn hn2) ?_
  rw [pk_rem hj hn hn2]
  refine xr_iret cx cz dL_up_6 rfl ?_
  exact h _ (Nat.mod_lt _ hn)
/-- the class's cells hold the row a now and the rows hl in the history; each of them keeps what always holds -/
def zLS (σ : XSt) (a : Nat → Int32) (hl : List (Nat → Int32)) : Prop := CRel σ a hl none ∧ σ 150 3 = nI 0 ∧ zInv a ∧ ∀ c ∈ hl, zInv c
def zLI (σ : XSt) : Prop := ∃ a hl, zLS σ a hl
theorem zh_push {a : Nat → Int32} {hl : List (Nat → Int32)} (h : ∀ c ∈ hl, zInv c) (ha : zInv a) : ∀ c ∈ hpush hl a, zInv c := by
  intro c hc
  unfold hpush at hc
  rcases List.mem_append.mp hc with q | q
  · split at q
    · exact h c (List.mem_of_mem_tail q)
    · exact h c q
  · rw [List.mem_singleton.mp q]; exact ha
section QA
variable {l : Launch} {E : XEnv} {d : Nat} {σ τ : XSt} {a c : Nat → Int32} {hl : List (Nat → Int32)} {Q : Int32 → XSt → Prop}
theorem zLS_act {r : Int32} {q : Int32 × Option (Nat → Int32)} (hS : zLS σ a hl) (e : q = (r, some c)) (hz : zInv c) (hA : CAct σ τ a hl none q.2) : zLS τ c (hpush hl a) := by
  subst e
  obtain ⟨h1, h2⟩ := (show CRel τ c (hpush hl a) none ∧ ∀ k, (k < 0 ∨ 150 ≤ k) → τ k = σ k from hA)
  exact ⟨h1, by rw [h2 150 (by decide)]; exact hS.2.1, hz, zh_push hS.2.2.2 hS.2.2.1⟩
theorem zLS_non {r : Int32} {q : Int32 × Option (Nat → Int32)} (e : q = (r, none)) (hA : CAct σ τ a hl none q.2) : τ = σ := by
  subst e
  exact hA
theorem q_setRoom_s {x : Int32} {r : Int32} (hG : xGl E) (hS : zLS σ a hl) (e : oRoom a x = (r, some c)) (hz : zInv c) (h : ∀ τ, zLS τ c (hpush hl a) → Q r τ) : XMi l E (d + 5) mX8_setRoom [.ref (xad E 0), .int x] σ Q :=
  m_X8_setRoom hG hS.1 (fun τ hA => by rw [e]; exact h τ (zLS_act hS e hz hA))
theorem q_setRoom_n {x : Int32} {r : Int32} (hG : xGl E) (hS : zLS σ a hl) (e : oRoom a x = (r, none)) (h : Q r σ) : XMi l E (d + 5) mX8_setRoom [.ref (xad E 0), .int x] σ Q :=
  m_X8_setRoom hG hS.1 (fun τ hA => by rw [e, zLS_non e hA]; exact h)
theorem q_plan_s {x y : Int32} {r : Int32} (hG : xGl E) (hS : zLS σ a hl) (e : oPlan a x y = (r, some c)) (hz : zInv c) (h : ∀ τ, zLS τ c (hpush hl a) → Q r τ) : XMi l E (d + 5) mX8_plan [.ref (xad E 0), .int x, .int y] σ Q :=
  m_X8_plan hG hS.1 (fun τ hA => by rw [e]; exact h τ (zLS_act hS e hz hA))
theorem q_plan_n {x y : Int32} {r : Int32} (hG : xGl E) (hS : zLS σ a hl) (e : oPlan a x y = (r, none)) (h : Q r σ) : XMi l E (d + 5) mX8_plan [.ref (xad E 0), .int x, .int y] σ Q :=
  m_X8_plan hG hS.1 (fun τ hA => by rw [e, zLS_non e hA]; exact h)
theorem q_write_s {r : Int32} (hG : xGl E) (hS : zLS σ a hl) (e : oWrite a = (r, some c)) (hz : zInv c) (h : ∀ τ, zLS τ c (hpush hl a) → Q r τ) : XMi l E (d + 5) mX8_write [.ref (xad E 0)] σ Q :=
  m_X8_write hG hS.1 (fun τ hA => by rw [e]; exact h τ (zLS_act hS e hz hA))
theorem q_write_n {r : Int32} (hG : xGl E) (hS : zLS σ a hl) (e : oWrite a = (r, none)) (h : Q r σ) : XMi l E (d + 5) mX8_write [.ref (xad E 0)] σ Q :=
  m_X8_write hG hS.1 (fun τ hA => by rw [e, zLS_non e hA]; exact h)
theorem q_pull_s {x : Int32} {r : Int32} (hG : xGl E) (hS : zLS σ a hl) (e : oPull a x = (r, some c)) (hz : zInv c) (h : ∀ τ, zLS τ c (hpush hl a) → Q r τ) : XMi l E (d + 5) mX8_pull [.ref (xad E 0), .int x] σ Q :=
  m_X8_pull hG hS.1 (fun τ hA => by rw [e]; exact h τ (zLS_act hS e hz hA))
theorem q_pull_n {x : Int32} {r : Int32} (hG : xGl E) (hS : zLS σ a hl) (e : oPull a x = (r, none)) (h : Q r σ) : XMi l E (d + 5) mX8_pull [.ref (xad E 0), .int x] σ Q :=
  m_X8_pull hG hS.1 (fun τ hA => by rw [e, zLS_non e hA]; exact h)
theorem q_pin_s {x y : Int32} {r : Int32} (hG : xGl E) (hS : zLS σ a hl) (e : oPin a x y = (r, some c)) (hz : zInv c) (h : ∀ τ, zLS τ c (hpush hl a) → Q r τ) : XMi l E (d + 5) mX8_pin [.ref (xad E 0), .int x, .int y] σ Q :=
  m_X8_pin hG hS.1 (fun τ hA => by rw [e]; exact h τ (zLS_act hS e hz hA))
theorem q_pin_n {x y : Int32} {r : Int32} (hG : xGl E) (hS : zLS σ a hl) (e : oPin a x y = (r, none)) (h : Q r σ) : XMi l E (d + 5) mX8_pin [.ref (xad E 0), .int x, .int y] σ Q :=
  m_X8_pin hG hS.1 (fun τ hA => by rw [e, zLS_non e hA]; exact h)
theorem q_wipe_s {x : Int32} {r : Int32} (hG : xGl E) (hS : zLS σ a hl) (e : oWipe a x = (r, some c)) (hz : zInv c) (h : ∀ τ, zLS τ c (hpush hl a) → Q r τ) : XMi l E (d + 5) mX8_wipe [.ref (xad E 0), .int x] σ Q :=
  m_X8_wipe hG hS.1 (fun τ hA => by rw [e]; exact h τ (zLS_act hS e hz hA))
theorem q_wipe_n {x : Int32} {r : Int32} (hG : xGl E) (hS : zLS σ a hl) (e : oWipe a x = (r, none)) (h : Q r σ) : XMi l E (d + 5) mX8_wipe [.ref (xad E 0), .int x] σ Q :=
  m_X8_wipe hG hS.1 (fun τ hA => by rw [e, zLS_non e hA]; exact h)
theorem q_photo_s {x : Int32} {r : Int32} (hG : xGl E) (hS : zLS σ a hl) (e : oPhoto a x = (r, some c)) (hz : zInv c) (h : ∀ τ, zLS τ c (hpush hl a) → Q r τ) : XMi l E (d + 5) mX8_photo [.ref (xad E 0), .int x] σ Q :=
  m_X8_photo hG hS.1 (fun τ hA => by rw [e]; exact h τ (zLS_act hS e hz hA))
theorem q_photo_n {x : Int32} {r : Int32} (hG : xGl E) (hS : zLS σ a hl) (e : oPhoto a x = (r, none)) (h : Q r σ) : XMi l E (d + 5) mX8_photo [.ref (xad E 0), .int x] σ Q :=
  m_X8_photo hG hS.1 (fun τ hA => by rw [e, zLS_non e hA]; exact h)
theorem q_ask_s {x : Int32} {r : Int32} (hG : xGl E) (hS : zLS σ a hl) (e : oAsk a x = (r, some c)) (hz : zInv c) (h : ∀ τ, zLS τ c (hpush hl a) → Q r τ) : XMi l E (d + 5) mX8_ask [.ref (xad E 0), .int x] σ Q :=
  m_X8_ask hG hS.1 (fun τ hA => by rw [e]; exact h τ (zLS_act hS e hz hA))
theorem q_ask_n {x : Int32} {r : Int32} (hG : xGl E) (hS : zLS σ a hl) (e : oAsk a x = (r, none)) (h : Q r σ) : XMi l E (d + 5) mX8_ask [.ref (xad E 0), .int x] σ Q :=
  m_X8_ask hG hS.1 (fun τ hA => by rw [e, zLS_non e hA]; exact h)
theorem q_undo_n {d : Nat} (hG : xGl E) (hS : zLS σ a []) (h : Q (-5) σ) : XMi l E (d + 5) mX8_undo [.ref (xad E 0)] σ Q := m_X8_undo_n (hl := []) hG hS.1 h
theorem q_undo_s (hG : xGl E) (hS : zLS σ a (hl ++ [c])) (h : ∀ τ, zLS τ c hl → Q (nI hl.length) τ) : XMi l E (d + 5) mX8_undo [.ref (xad E 0)] σ Q :=
  m_X8_undo_s hG hS.1 (fun τ h1 h2 => h τ ⟨h1, by rw [h2 150 (by decide)]; exact hS.2.1, hS.2.2.2 c (List.mem_append_right _ (List.mem_singleton.mpr rfl)), fun e he => hS.2.2.2 e (List.mem_append_left _ he)⟩)
theorem q_count {y v : Int32} {j : Nat} (hG : xGl E) (hS : zLS σ a hl) (hy : y = nI j) (hv : ([a 1, a 2, a 3, a 8, a 9, a 10, a 11, a 12, a 13, a 14, a 15, a 16, a 2 - swar (xit (fun p acc => acc ||| a (17 + p)) 6 0 0 ||| mPh a), a 0, nI hl.length, nI 0] : List Int32)[j]? = some v) (h : Q v σ) : XMi l E (d + 5) mX8_count [.ref (xad E 0), .int y] σ Q :=
  m_X8_count hG hS.1 hS.2.1 (by unfold oCount; rw [xsel_in hy hv (show (16 : Nat) < 2 ^ 31 by decide)]; exact h)
theorem q_panel {x y v : Int32} {p j : Nat} (hG : xGl E) (hS : zLS σ a hl) (hp : p < 6) (hx : x = nI p) (hy : y = nI j) (hv : ([a (17 + p), mLines a p, if mFront a p = true then 1 else 0, if bt (a 7) p = true then 1 else 0, a (23 + p), a (17 + p) &&& (mPh a ^^^ (-1))] : List Int32)[j]? = some v) (h : Q v σ) : XMi l E (d + 5) mX8_panel [.ref (xad E 0), .int x, .int y] σ Q := by
  subst hx
  refine m_X8_panel hG hS.1 ?_
  unfold oPanel
  rw [nI_clamp (by omega), if_neg (fun q => q.elim (nI_pos (by omega)) (nI_ge (a := p) (b := 6) hp (by decide))), xsel_in hy hv (show (6 : Nat) < 2 ^ 31 by decide)]
  exact h
theorem q_step {x y v : Int32} {s j : Nat} (hG : xGl E) (hS : zLS σ a hl) (hs : s < mSt a) (hx : x = nI s) (hy : y = nI j) (hv : ([a (109 + s), a (139 + s), if nI s < a 2 then 1 else 0, pnn (mPan a s), if bt (mPh a) s = true then 1 else 0, a (169 + s), a (199 + s)] : List Int32)[j]? = some v) (h : Q v σ) : XMi l E (d + 5) mX8_step [.ref (xad E 0), .int x, .int y] σ Q := by
  subst hx
  have hI := hS.1.2.1
  obtain ⟨b1, b2, b3, b4⟩ := xIx_b hI.1
  refine m_X8_step hG hS.1 ?_
  unfold oStep
  rw [nI_clamp (by omega), if_neg (fun q => q.elim (nI_pos (by omega)) (fun q => by rw [hI.1.1] at q; exact nI_ge hs (by omega) q)), xsel_in hy hv (show (7 : Nat) < 2 ^ 31 by decide)]
  exact h
theorem q_photo0 {x : Int32} {k : Nat} (hG : xGl E) (hS : zLS σ a hl) (hk : k < mTk a) (hx : x = nI k) (h : Q (a (29 + k)) σ) : XMi l E (d + 5) mX8_photoOf [.ref (xad E 0), .int x, .int 0] σ Q := by
  subst hx
  have hI := hS.1.2.1
  obtain ⟨b1, b2, b3, b4⟩ := xIx_b hI.1
  refine m_X8_photoOf hG hS.1 ?_
  unfold oPhotoOf
  rw [nI_clamp (by omega), if_neg (fun q => q.elim (nI_pos (by omega)) (by decide)), if_neg (fun q => by rw [hI.1.2.2.2.1] at q; exact nI_ge hk (by omega) q), if_pos rfl]
  exact h
theorem q_photo1 {x : Int32} {k : Nat} (hG : xGl E) (hS : zLS σ a hl) (hk : k < mTk a) (hx : x = nI k) (h : Q (a (69 + k)) σ) : XMi l E (d + 5) mX8_photoOf [.ref (xad E 0), .int x, .int 1] σ Q := by
  subst hx
  have hI := hS.1.2.1
  obtain ⟨b1, b2, b3, b4⟩ := xIx_b hI.1
  refine m_X8_photoOf hG hS.1 ?_
  unfold oPhotoOf
  rw [nI_clamp (by omega), if_neg (fun q => q.elim (nI_pos (by omega)) (by decide)), if_neg (fun q => by rw [hI.1.2.2.2.1] at q; exact nI_ge hk (by omega) q), if_neg (by decide)]
  exact h
theorem zLS_q (hS : zLS σ a hl) (hq : CQ σ τ) : zLS τ a hl := ⟨CRel_fr hS.1 (fun k _ _ h3 => hq k h3), by rw [hq 150 (by decide)]; exact hS.2.1, hS.2.2⟩
theorem q_would {y v : Int32} {j : Nat} (hG : xGl E) (hS : zLS σ a hl) (hy : y = nI j) (hv : ([(mRun 30 a 0).1 8 - a 8, (mRun 30 a 0).1 9 - a 9, (mRun 30 a 0).1 11 - a 11, (mRun 30 a 0).1 12 - a 12, (mRun 30 a 0).1 13 - a 13, (mRun 30 a 0).1 2 - a 2] : List Int32)[j]? = some v) (h : ∀ τ, zLS τ a hl → Q v τ) : XMi l E (d + 6) mX8_wouldBe [.ref (xad E 0), .int y] σ Q :=
  m_X8_wouldBe hG hS.1 (fun τ hq => by unfold oWould; rw [xsel_in hy hv (show (6 : Nat) < 2 ^ 31 by decide)]; exact h τ (zLS_q hS hq))
theorem q_photosNeeded (hG : xGl E) (hS : zLS σ a hl) (h : ∀ τ, zLS τ a hl → Q (mRun 30 a 0).2 τ) : XMi l E (d + 6) mX8_photosNeeded [.ref (xad E 0)] σ Q :=
  m_X8_photosNeeded hG hS.1 (fun τ hq => h τ (zLS_q hS hq))
end QA
theorem m_L_missed {l : Launch} {E : XEnv} {d : Nat} {σ : XSt} {a : Nat → Int32} {hl : List (Nat → Int32)} {Q : Int32 → XSt → Prop} (hG : xGl E) (hS : zLS σ a hl) (h : Q (a 11 + a 12 + a 13) σ) : XMi l E (d + 6) mL_missed [.ref (xad E 0)] σ Q := by
  obtain ⟨g8, g72, g73, g158, g159, g160, g161, g162, g163, L9, L30, L51, L74, L95, L116, L137⟩ := id hG
  refine xr_entry (lv := [some (.ref (xad E 0))]) (by decide +kernel) (by simp [Value.category]) (Nat.le_of_ble_eq_true rfl) rfl (fun w hw cx cz => ?_)
  subst hw
  refine xr_aload_0 cx dL_missed_0 ?_
  refine xr_bipush (v := 6) cx dL_missed_1 (by decide) ?_
  refine xr_V1i (ν := mX8_count) cx dL_missed_3 rfl ml_L_9 vf_X8_count g8 (Nat.le_of_ble_eq_true rfl) (q_count (j := 6) (v := a 11) hG hS rfl rfl ?_)
  refine xr_aload_0 cx dL_missed_6 ?_
  refine xr_bipush (v := 7) cx dL_missed_7 (by decide) ?_
  refine xr_V1i (ν := mX8_count) cx dL_missed_9 rfl ml_L_9 vf_X8_count g8 (Nat.le_of_ble_eq_true rfl) (q_count (j := 7) (v := a 12) hG hS rfl rfl ?_)
  refine xr_iadd cx dL_missed_12 ?_
  refine xr_aload_0 cx dL_missed_13 ?_
  refine xr_bipush (v := 8) cx dL_missed_14 (by decide) ?_
  refine xr_V1i (ν := mX8_count) cx dL_missed_16 rfl ml_L_9 vf_X8_count g8 (Nat.le_of_ble_eq_true rfl) (q_count (j := 8) (v := a 13) hG hS rfl rfl ?_)
  refine xr_iadd cx dL_missed_19 ?_
  refine xr_iret cx cz dL_missed_20 rfl ?_
  exact h
/-! A NUMBER OF THE SCRIPT: the one method that looks at a cell beside the class's -/
def XMx (l : Launch) (E : XEnv) (d : Nat) (μ : XMt) (as : List Value) (σ : XSt) (X : State → Prop) (Q : Option Value → XSt → Prop) : Prop :=
  Met l μ.1 (xws μ) (xrm d) (va_Pc as (fun U => (va_P E.2.2.1 vwCl (xW E σ) U.heap ∧ va_K E.2.2.1 vwCl (xT E) U ∧ va_D (xA E) (xW E σ) ∧ ∀ v ∈ lw_nest, va_Nw v U) ∧ X U)) (xQ E Q) 0 0 (xA E)
theorem xr_entryX {l : Launch} {E : XEnv} {d : Nat} {μ : XMt} {as : List Value} {σ : XSt} {X : State → Prop} {Q : Option Value → XSt → Prop} {lv : List (Option Value)} (hy : plainName μ.1.cls = true) (hc : ∀ u ∈ as, u.category = 1) (hn : as.length ≤ μ.2.2.1) (hlv : xent as μ.2.2.1 = lv)
    (k : ∀ w : XO, w.2.1 = l → CX d w E μ → CZ w E Q → X w.2.2.2.2.1 → XG w E 0 lv [] σ) : XMx l E d μ as σ X Q := by
  obtain ⟨y, cc, n, ret⟩ := μ
  subst hlv
  refine Met.ofW (cc := cc) (maxL := n) (ret := ret) hy rfl ?_
  intro p e s m args below meth c s₁ B hml hv
  obtain ⟨rfl, ⟨hP, hK, hD, hN⟩, hX⟩ := hv
  have hx := B.exec
  have hb := B.bytes
  have hr := B.returns
  have hts := atoms_spec (ws := xws (y, cc, n, ret)) B.pre
  have hown : s.vm.findClass y.cls = some m.cls := findClass_of_methodNamed B.named
  have hlocks := B.notSynchronized
  rw [lg_entry_eq]
  refine k (p, l, e, xrm d, s, m, as.toArray, below, meth, c, xA E, 0, 0, MQ below (xQ E Q) as.toArray s 0 0 (xA E)) rfl ?_ ⟨rfl, rfl⟩ hX s.heap [] _ hP va_S.rf (xL_entry hc hn)
  exact ⟨hx, hb, hml, hown, fun v hv => hts v (List.mem_cons_of_mem _ hv), hN, hK, xD_to _ hD, ⟨Nat.le_refl _, Nat.le_refl _, Nat.le_refl _, Nat.le_refl _⟩, hr, hlocks⟩
/-- the script's cell b, of L ints xs, that nothing writes -/
def LX (w : XO) (b L : Nat) (xs : Nat → Int32) : Prop := match w with
  | (_, _, _, _, s, _, _, _, _, _, A, _, _, _) => va_X b L xs s s.heap ∧ b < s.heap.size ∧ ¬ A b
section LR
variable {d : Nat} {w : XO} {E : XEnv} {μ : XMt} {pc b L : Nat} {xs : Nat → Int32} {lv : List (Option Value)} {r : List Value} {σ : XSt}
theorem xr_slen (lx : LX w b L xs) (cx : CX d w E μ) (hd : decode μ.2.1 pc = .ok (.arraylength, 1)) (kk : XG w E (pc + 1) lv (.int (nI L) :: r) σ) : XG w E pc lv (.ref b :: r) σ := by
  obtain ⟨p, l, e, R, s, m, args, below, meth, c, A, cells, slots, Z⟩ := w
  intro H locs ls hP hS hl
  exact va_slen cx.1 cx.2.1 lx.1 lx.2.1 lx.2.2 hS hd (kk H locs ls hP hS hl)
theorem xr_sldX {i : Int32} (lx : LX w b L xs) (cx : CX d w E μ) (hd : decode μ.2.1 pc = .ok (.iaload, 1)) (hin : vp_in i L) (kk : XG w E (pc + 1) lv (.int (xs i.toNatClampNeg) :: r) σ) : XG w E pc lv (.int i :: .ref b :: r) σ := by
  obtain ⟨p, l, e, R, s, m, args, below, meth, c, A, cells, slots, Z⟩ := w
  intro H locs ls hP hS hl
  exact va_sld cx.1 cx.2.1 lx.1 lx.2.1 lx.2.2 hS hin hd (kk H locs ls hP hS hl)
end LR
/-- a world of no cells -/
def xE0 (E : XEnv) : XEnv := (E.1, [], E.2.2.1, E.2.2.2)
theorem m_L_cell {l : Launch} {E : XEnv} {d b L k : Nat} {xs : Nat → Int32} {σ : XSt} (hL : L ≤ 260) (hk : k < 1000) : XMx l (xE0 E) d mL_cell [.ref b, .int (nI k)] σ (fun U => va_X b L xs U U.heap ∧ b < U.heap.size) (fun v _ => ∃ z : Int32, v = some (.int z)) := by
  refine xr_entryX (lv := [some (.ref b), some (.int (nI k))]) (by decide +kernel) (by simp [Value.category]) (Nat.le_of_ble_eq_true rfl) rfl (fun w hw cx cz hX => ?_)
  have lx : LX w b L xs := by
    obtain ⟨p, l, e, R, s, m, args, below, meth, c, A, cells, slots, Z⟩ := w
    refine ⟨hX.1, hX.2, ?_⟩
    rw [cz.2]
    rintro ⟨j, hj, -⟩
    exact absurd hj (Nat.not_lt_zero _)
  have cz2 : CZi w (xE0 E) (fun _ _ => True) := by
    obtain ⟨p, l, e, R, s, m, args, below, meth, c, A, cells, slots, Z⟩ := w
    refine ⟨?_, cz.2⟩
    rw [cz.1]
    have : (fun (v : Option Value) (_ : XSt) => ∃ z : Int32, v = some (.int z)) = fun (v : Option Value) (_ : XSt) => ∃ z : Int32, v = some (.int z) ∧ True := by
      funext v τ
      simp
    rw [this]
  have h : True := trivial
  refine xr_iload_1 cx dL_cell_0 ?_
  refine xr_aload_0 cx dL_cell_1 ?_
  refine xr_slen lx cx dL_cell_2 ?_
  refine xr_icmp_ge (tgt := 12) cx dL_cell_3 (by decide) (fun cq3 => ?_) (fun cq3 => ?_)
  · refine xr_ldc cx dL_cell_12 kc_L_7 ?_
    refine xr_iload_1 cx dL_cell_14 ?_
    refine xr_sipush (v := 883) cx dL_cell_15 (by decide) ?_
    refine xr_iadd cx dL_cell_18 ?_
    refine xr_imul cx dL_cell_19 ?_
    refine xr_iret cx cz2 dL_cell_20 rfl ?_
    exact h
  · refine xr_aload_0 cx dL_cell_6 ?_
    refine xr_iload_1 cx dL_cell_7 ?_
    refine xr_sldX lx cx dL_cell_8 (vp_in_nI (Nat.not_le.mp (fun q => cq3 (nI_le q (by omega)))) (by omega)) ?_
    refine xr_goto (tgt := 20) cx dL_cell_9 (by decide) ?_
    refine xr_iret cx cz2 dL_cell_20 rfl ?_
    exact h
theorem x_blindX {E : XEnv} {as : List Value} {σ : XSt} {b L : Nat} {xs : Nat → Int32} : FrameBlind (va_Pc as (fun U => (va_P E.2.2.1 vwCl (xW E σ) U.heap ∧ va_K E.2.2.1 vwCl (xT E) U ∧ va_D (xA E) (xW E σ) ∧ ∀ v ∈ lw_nest, va_Nw v U) ∧ va_X b L xs U U.heap ∧ b < U.heap.size)) := by
  rintro a U g mk ⟨h0, ⟨h1, h2, h3, h4⟩, h5, h6⟩
  exact ⟨h0, ⟨h1, va_K.moved (u := U) (U := U.calling g mk a) (Vm.Alike.refl U.vm) h2, h3, fun v hv => va_Nw.same (u := U) (U := U.calling g mk a) (x_nestT v hv) rfl (h4 v hv)⟩, va_X.moved (u := U) (U := U.calling g mk a) (Vm.Alike.refl U.vm) h5, h6⟩
theorem x_atlt {D : va_G} {cl : List vw_C} {q : Nat × va_E} {H : Heap} (h : va_at D cl q H) : q.1 < H.size := by
  obtain ⟨b, e⟩ := q
  cases e with
  | inl x => exact (Array.getElem?_eq_some_iff.mp (show H[b]? = some (vp_cell x.1 x.2) from h)).1
  | inr o =>
    obtain ⟨r, -, cell, hc, -⟩ := h
    exact (Array.getElem?_eq_some_iff.mp hc).1
theorem xr_cell {d : Nat} {w : XO} {E : XEnv} {μ : XMt} {pc b L idx k : Nat} {xs : Nat → Int32} {x : Int32} {lv : List (Option Value)} {r : List Value} {σ : XSt} (lx : LX w b L xs) (hL : L ≤ 260) (cx : CX (d + 1) w E μ) (hd : decode μ.2.1 pc = .ok (.invokestatic idx, 3)) (hlv : lv.length = μ.2.2.1) (hlk : Cond.methodLink μ.1.cls idx mL_cell.1 ∈ lw_good) (hr : (r.map fun v => v.category).sum ≤ 8) (hx : x = nI k) (hk : k < 1000)
    (kk : ∀ z : Int32, XG w E (pc + 3) lv (.int z :: r) σ) : XG w E pc lv (.int x :: .ref b :: r) σ := by
  subst hx
  have hM := m_L_cell (l := w.2.1) (E := E) (d := d) (b := b) (xs := xs) (σ := σ) hL hk
  obtain ⟨p, l, e, R, s, m, args, below, meth, c, A, cells, slots, Z⟩ := w
  obtain ⟨w1, w3, w4, w5, w6, w7⟩ := sf_L_cell
  intro H locs ls hP hS hl
  obtain ⟨hx, hb, hml, hown, hts, hN, hK, hD, ⟨g1, g2, g3, g4⟩, -, -⟩ := id cx
  obtain ⟨lx1, lx2, lx3⟩ := id lx
  have hrun := va_runS (e := e) (meth := meth) (below := below) (As := [.ref b, .int (nI k)]) (rest := r) (n := 2) (nL := μ.2.2.1) (Ts := lw_good) (H := H) (locs := locs) (g := F0 m pc ls (.int (nI k) :: .ref b :: r)) (index := idx) (own := μ.1.cls) ⟨hx, hb, hml, hown, hts⟩ hM
    ⟨⟨rfl, rfl, g1, ?_, x_pay hts w4, List.mem_cons_self, hts _ w4, hts _ w3, w5, x_len w6, hts _ hlk⟩, hts _ w1⟩
    ⟨x_blindX, ?_⟩ rfl rfl (by rw [← hlv]; exact hl.1) rfl (lv_room hr) hd ⟨g3, g4⟩
  · intro T hT X
    obtain ⟨v, st₀, t, T', LL, h0, X', hLL, e1, e2, ⟨⟨v2, τ, hv, ⟨z, hq⟩, hp⟩, hz, hkk⟩, st⟩ := hrun T hT X
    cases hv
    subst hq
    rw [h0] at hz hkk
    have hkeep : ∀ q, q < H.size → T'.heap[q]? = H[q]? := fun q hq => by
      rw [e1]
      exact hkk q hq (by rintro ⟨j, hj, -⟩; exact absurd hj (Nat.not_lt_zero _))
    obtain ⟨t2, a1, b1⟩ := kk z T'.heap (locs ++ LL) ls (fun i q hi => by
      exact (hP i q hi).kept (hkeep _ (x_atlt (hP i q hi)))) ⟨Nat.le_trans hS.1 (by rw [e1]; exact hz), fun q h1 h2 => by rw [hkeep q (Nat.lt_of_lt_of_le h1 hS.1)]; exact hS.2.1 q h1 h2, fun q hq => by
        rcases List.mem_append.mp hq with h | h
        · exact hS.2.2 q h
        · obtain ⟨j, hj, -⟩ := hLL q h
          exact absurd hj (Nat.not_lt_zero _)⟩ hl T' rfl X'
    exact ⟨t2, st t2 a1, b1⟩
  · show 8 + (2 + 11) + 34 * d ≤ R.locals
    omega
  · intro U hU hW
    refine ⟨rfl, ⟨(fun i q hi => by simp [xW, xE0] at hi), va_K.moved hW.alike hK, ⟨(fun i j p q hi => by simp [xW, xE0] at hi), (fun k q hk => by simp [xW, xE0] at hk)⟩, fun v hv => x_nestW v hv hW (hN v hv)⟩, ?_, ?_⟩
    · rw [hU]
      exact va_X.moved hW.alike (va_X.kept lx1 (hS.2.1 b lx2 lx3))
    · rw [hU]
      exact Nat.lt_of_lt_of_le lx2 hS.1
