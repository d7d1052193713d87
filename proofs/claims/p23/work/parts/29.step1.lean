section ZE
variable {a : Nat → Int32} {p : Nat}
theorem nI_pan (hp : p < 6) : ¬ (nI p < 0 ∨ 6 ≤ nI p) := fun q => q.elim (nI_pos (by omega)) (nI_ge (a := p) (b := 6) hp (by decide))
theorem fr_nn {c : Nat} (h : zFr a) (hc : c < 3) : ¬ a (4 + c) < 0 := by
  rcases h c hc with q | q <;> rw [q] <;> exact nI_pos (by omega)
theorem e_pull {c : Nat} (hc : c < 3) : oPull a (nI c) = (mPull a c (4 + c), some (mPull a c)) := by
  unfold oPull
  rw [nI_clamp (by omega), if_neg (fun q => q.elim (nI_pos (by omega)) (nI_ge (a := c) (b := 3) hc (by decide)))]
theorem mPull_8 {c : Nat} : mPull a c 8 = a 8 + 1 := upd_same _ _ _
theorem e_pin_n {v : Int32} (hp : p < 6) (h : (if bt (a 7) p = true then (1 : Int32) else 0) = v) : oPin a (nI p) v = (-5, none) := by
  unfold oPin
  rw [nI_clamp (by omega), if_neg (nI_pan hp), if_pos h]
theorem e_pin_s {v : Int32} (hp : p < 6) (h : ¬ (if bt (a 7) p = true then (1 : Int32) else 0) = v) : oPin a (nI p) v = (swar (a 7 ^^^ xbit p), some (upd a 7 (a 7 ^^^ xbit p))) := by
  unfold oPin
  rw [nI_clamp (by omega), if_neg (nI_pan hp), if_neg h]
theorem swar_nn (x : Int32) : ¬ swar x < 0 := by
  rw [swar_zc]
  exact nI_pos (by have := zc_le (bt x) 32; omega)
theorem swar_ne (x : Int32) : ¬ swar x = -1 := fun q => swar_nn x (by rw [q]; decide)
theorem e_wipe_m (hp : p < 6) (h : bt (a 7) p = true ∨ ¬ mFront a p = true) : oWipe a (nI p) = (-4, none) := by
  unfold oWipe
  rw [nI_clamp (by omega), if_neg (nI_pan hp), if_pos h]
theorem e_wipe_0 (hp : p < 6) (h : ¬ bt (a 7) p = true) (hf : mFront a p = true) (h0 : a (17 + p) = 0) : oWipe a (nI p) = (-5, none) := by
  unfold oWipe
  rw [nI_clamp (by omega), if_neg (nI_pan hp), if_neg (fun q => q.elim h (fun z => z hf)), if_pos h0]
theorem e_wipe_s (hp : p < 6) (h : ¬ bt (a 7) p = true) (hf : mFront a p = true) (h0 : ¬ a (17 + p) = 0) : oWipe a (nI p) = (swar (a (17 + p)), some (mWipe a p)) := by
  unfold oWipe
  rw [nI_clamp (by omega), if_neg (nI_pan hp), if_neg (fun q => q.elim h (fun z => z hf)), if_neg h0]
theorem mWipe_on (hp : p < 6) : mWipe a p (17 + p) = 0 := by
  unfold mWipe
  rw [upd_ne _ _ (by omega), upd_ne _ _ (by omega), upd_same]
theorem mWipe_9 : mWipe a p 9 = a 9 + 1 := upd_same _ _ _
theorem on_30 (hI : xInv a) (hp : p < 6) : ∀ k, 30 ≤ k → k < 32 → bt (a (17 + p)) k = false := fun k h1 h2 => hI.2.1 p hp k (by have := xIx_b hI.1; omega) h2
theorem zB_0 {x : Int32} (h : ∀ k, 30 ≤ k → k < 32 → bt x k = false) : zBits x = 0 ↔ x = 0 := by
  rw [zBits_n, ← zc_zero h]
  exact ⟨fun q => (nI_eq (b := 0) (by have := zc_le (bt x) 30; omega) (by decide)).mp q, fun q => by rw [q]; rfl⟩
theorem e_photo_m (hp : p < 6) (h : ¬ mFront a p = true ∨ a (17 + p) = 0) : oPhoto a (nI p) = (-4, none) := by
  unfold oPhoto
  rw [nI_clamp (by omega), if_neg (nI_pan hp), if_pos h]
theorem e_photo_f (hp : p < 6) (hf : mFront a p = true) (h0 : ¬ a (17 + p) = 0) (h : 40 ≤ a 10) : oPhoto a (nI p) = (-3, none) := by
  unfold oPhoto
  rw [nI_clamp (by omega), if_neg (nI_pan hp), if_neg (fun q => q.elim (fun z => z hf) h0), if_pos h]
theorem e_photo_s (hp : p < 6) (hf : mFront a p = true) (h0 : ¬ a (17 + p) = 0) (h : ¬ 40 ≤ a 10) : oPhoto a (nI p) = (swar (a (17 + p) &&& (mPh a ^^^ (-1))), some (mPhoto a p)) := by
  unfold oPhoto
  rw [nI_clamp (by omega), if_neg (nI_pan hp), if_neg (fun q => q.elim (fun z => z hf) h0), if_neg h]
theorem photo_30 (hI : xInv a) (hp : p < 6) : swar (a (17 + p) &&& (mPh a ^^^ (-1))) = zBits (a (17 + p) &&& (mPh a ^^^ (-1))) := swar_b (fun s h1 h2 => by rw [b_and, on_30 hI hp s h1 h2, Bool.false_and])
theorem mPhoto_10 : mPhoto a p 10 = a 10 + 1 := upd_same _ _ _
theorem photo_0 (hI : xInv a) (hp : p < 6) (ht : mTk a < 40) : mPhoto a p (17 + p) &&& (mPh (mPhoto a p) ^^^ (-1)) = 0 := by
  have e : mPhoto a p (17 + p) = a (17 + p) := by
    unfold mPhoto
    rw [upd_ne _ _ (by omega), upd_ne _ _ (by omega), upd_ne _ _ (by omega)]
  rw [e, mPh_photo hI.1 ht]
  exact b_zero (fun i hi => by
    rw [b_and, b_not _ hi, b_or]
    cases bt (a (17 + p)) i <;> simp)
theorem e_ask_u (h : a 1 = 0) : oAsk a 0 = (-1, none) := by
  unfold oAsk
  rw [if_pos (Or.inr (by rw [h]; exact Int32.le_refl _))]
theorem e_ask_m (h : ¬ a 1 ≤ 0) (h2 : a 2 = 0) : oAsk a 0 = (-4, none) := by
  unfold oAsk
  rw [if_neg (fun q => q.elim (by decide) h), if_pos (by rw [h2]; exact Int32.le_refl _)]
theorem e_ask_s {s : Nat} (hI : xInv a) (hs : s < mWr a) : oAsk a (nI s) = ((mAsk a s).1, some (mAsk a s).2) := by
  obtain ⟨b1, b2, b3, b4⟩ := xIx_b hI.1
  unfold oAsk
  rw [nI_clamp (by omega), if_neg (fun q => q.elim (nI_pos (by omega)) (fun q => by rw [hI.1.1] at q; exact nI_ge (show s < mSt a by omega) (by omega) q)), if_neg (fun q => by rw [hI.1.2.1] at q; exact nI_ge hs (by omega) q)]
theorem e_room_m {x : Int32} (h : ¬ (x < 4 ∨ 20 < x)) (h2 : x < mFull a) : oRoom a x = (-4, none) := by
  unfold oRoom
  rw [if_neg h, if_pos h2]
theorem e_room_n {x : Int32} (h : ¬ (x < 4 ∨ 20 < x)) (h2 : ¬ x < mFull a) (h3 : a 0 = x) : oRoom a x = (-5, none) := by
  unfold oRoom
  rw [if_neg h, if_neg h2, if_pos h3]
theorem e_room_s {x : Int32} (h : ¬ (x < 4 ∨ 20 < x)) (h2 : ¬ x < mFull a) (h3 : ¬ a 0 = x) : oRoom a x = (a 0, some (upd a 0 x)) := by
  unfold oRoom
  rw [if_neg h, if_neg h2, if_neg h3]
theorem needs_0 {nd : Int32} (hI : xInv a) (hb : ∀ k, mSt a ≤ k → k < 32 → bt nd k = false) : (nd.toUInt32 >>> ((a 1).toUInt32 &&& Int32.toUInt32 31)).toInt32 = 0 := by
  obtain ⟨b1, b2, b3, b4⟩ := xIx_b hI.1
  rw [hI.1.1]
  exact b_zero (fun i hi => by
    rw [b_ushr (mSt a) (by omega)]
    by_cases h : mSt a + i < 32
    · exact hb _ (by omega) h
    · exact b_big (by omega))
theorem nI_14 {j : Nat} (hj : j < 4) : ¬ (1 + nI j < 1 ∨ 4 < 1 + nI j) := by
  rw [show (1 : Int32) + nI j = nI (1 + j) from nI_add 1 j]
  exact fun q => q.elim (nI_nlt (a := 1 + j) (b := 1) (by omega) (by omega)) (nI_nlt (a := 4) (b := 1 + j) (by omega) (by omega))
theorem e_plan_f {nd : Int32} {j : Nat} (hI : xInv a) (hj : j < 4) (hb : ∀ k, mSt a ≤ k → k < 32 → bt nd k = false) (h : mSt a = 30) : oPlan a (1 + nI j) nd = (-3, none) := by
  unfold oPlan
  rw [if_neg (fun q => by rcases q with q | q | q; exact nI_14 hj (Or.inl q); exact nI_14 hj (Or.inr q); exact q (needs_0 hI hb)), if_pos (by rw [hI.1.1, h]; decide)]
theorem e_plan_s {nd : Int32} {j : Nat} (hI : xInv a) (hj : j < 4) (hb : ∀ k, mSt a ≤ k → k < 32 → bt nd k = false) (h : mSt a < 30) : oPlan a (1 + nI j) nd = (a 1, some (mPlan a (nI (1 + j)) nd)) := by
  unfold oPlan
  rw [if_neg (fun q => by rcases q with q | q | q; exact nI_14 hj (Or.inl q); exact nI_14 hj (Or.inr q); exact q (needs_0 hI hb)), if_neg (by rw [hI.1.1]; exact nI_ge (b := 30) h (by decide)), show (1 : Int32) + nI j = nI (1 + j) from nI_add 1 j]
end ZE
theorem ls_pull {d : Nat} {w : XO} {E : XEnv} {a : Nat → Int32} {hl : List (Nat → Int32)} {σ : XSt} {Q : Int32 → XSt → Prop} {x y z : Int32} {p : Nat} (hG : xGl E) (cx : CX (d + 7) w E mL_isStep) (cz : CZi w E Q) (hS : zLS σ a hl) (hp : p < 6) (hQ : ∀ τ, zLI τ → Q 1 τ) : XG w E 412 [some (.ref (xad E 0)), some (.int x), some (.int y), some (.int z), some (.int (nI p)), some (.int (a 1)), some (.int (a 2)), some (.int (a 8)), some (.int (a 9)), none, none, none, none] [] σ := by
  obtain ⟨g8, g72, g73, g158, g159, g160, g161, g162, g163, L9, L30, L51, L74, L95, L116, L137⟩ := id hG
  have hI := hS.1.2.1
  have hz := hS.2.2.1
  obtain ⟨b1, b2, b3, b4⟩ := xIx_b hI.1
  obtain ⟨ix1, ix2, ix3, ix4, -⟩ := id hI.1
  refine xr_aload_0 cx dL_isStep_412 ?_
  refine xr_iload_4 cx dL_isStep_413 ?_
  refine xr_iconst (v := 2) cx dL_isStep_415 (by decide) ?_
  refine xr_idiv cx dL_isStep_416 (by decide) ?_
  rw [show nI p / 2 = nI (p / 2) from pk_div (d := 2) (by omega) (by decide) (by decide)]
  refine xr_V1i (ν := mX8_pull) cx dL_isStep_417 rfl ml_L_41 vf_X8_pull g8 (Nat.le_of_ble_eq_true rfl) (q_pull_s hG hS (e_pull (by omega)) (zInv_pull hz hI.1 (by omega)) (fun τ hT => ?_))
  refine xr_if_lt (tgt := 439) cx dL_isStep_420 (by decide) (fun cq420 => ?_) (fun cq420 => ?_)
  · exact absurd cq420 (fr_nn (zFr_pull hz.2.1 (show p / 2 < 3 by omega)) (by omega))
  · refine xr_aload_0 cx dL_isStep_423 ?_
    refine xr_iconst (v := 3) cx dL_isStep_424 (by decide) ?_
    refine xr_V1i (ν := mX8_count) cx dL_isStep_425 rfl ml_L_9 vf_X8_count g8 (Nat.le_of_ble_eq_true rfl) (q_count (j := 3) (v := mPull a (p / 2) 8) hG hT rfl rfl ?_)
    refine xr_iload_7 cx dL_isStep_428 ?_
    refine xr_iconst (v := 1) cx dL_isStep_430 (by decide) ?_
    refine xr_iadd cx dL_isStep_431 ?_
    refine xr_icmp_ne (tgt := 439) cx dL_isStep_432 (by decide) (fun cq432 => ?_) (fun cq432 => ?_)
    · exact absurd (mPull_8) cq432
    · refine xr_iconst (v := 1) cx dL_isStep_435 (by decide) ?_
      refine xr_goto (tgt := 440) cx dL_isStep_436 (by decide) ?_
      refine xr_zret cx cz dL_isStep_440 rfl rfl ?_
      exact hQ _ ⟨_, _, hT⟩
theorem ls_pint {d : Nat} {w : XO} {E : XEnv} {a : Nat → Int32} {hl : List (Nat → Int32)} {σ : XSt} {Q : Int32 → XSt → Prop} {x y z : Int32} {p : Nat} (hG : xGl E) (cx : CX (d + 7) w E mL_isStep) (cz : CZi w E Q) (hS : zLS σ a hl) (hp : p < 6) (hQ : ∀ τ, zLI τ → Q 1 τ) {v : Int32} : XG w E 459 [some (.ref (xad E 0)), some (.int x), some (.int y), some (.int z), some (.int (nI p)), some (.int (a 1)), some (.int (a 2)), some (.int (a 8)), some (.int (a 9)), none, none, none, none] [.int v, .int (nI p), .ref (xad E 0)] σ := by
  obtain ⟨g8, g72, g73, g158, g159, g160, g161, g162, g163, L9, L30, L51, L74, L95, L116, L137⟩ := id hG
  have hI := hS.1.2.1
  have hz := hS.2.2.1
  obtain ⟨b1, b2, b3, b4⟩ := xIx_b hI.1
  obtain ⟨ix1, ix2, ix3, ix4, -⟩ := id hI.1
  by_cases hv : (if bt (a 7) p = true then (1 : Int32) else 0) = v
  · refine xr_V2i (ν := mX8_pin) cx dL_isStep_459 rfl ml_L_44 vf_X8_pin g8 (Nat.le_of_ble_eq_true rfl) (q_pin_n hG hS (e_pin_n hp hv) ?_)
    refine xr_iconst (v := -1) cx dL_isStep_462 (by decide) ?_
    refine xr_icmp_eq (tgt := 480) cx dL_isStep_463 (by decide) (fun cq463 => ?_) (fun cq463 => ?_)
    · exact absurd cq463 (by decide)
    · refine xr_aload_0 cx dL_isStep_466 ?_
      refine xr_iconst (v := 3) cx dL_isStep_467 (by decide) ?_
      refine xr_V1i (ν := mX8_count) cx dL_isStep_468 rfl ml_L_9 vf_X8_count g8 (Nat.le_of_ble_eq_true rfl) (q_count (j := 3) (v := a 8) hG hS rfl rfl ?_)
      refine xr_iload_7 cx dL_isStep_471 ?_
      refine xr_icmp_ne (tgt := 480) cx dL_isStep_473 (by decide) (fun cq473 => ?_) (fun cq473 => ?_)
      · exact absurd (rfl) cq473
      · refine xr_iconst (v := 1) cx dL_isStep_476 (by decide) ?_
        refine xr_goto (tgt := 481) cx dL_isStep_477 (by decide) ?_
        refine xr_zret cx cz dL_isStep_481 rfl rfl ?_
        exact hQ _ ⟨_, _, hS⟩
  · refine xr_V2i (ν := mX8_pin) cx dL_isStep_459 rfl ml_L_44 vf_X8_pin g8 (Nat.le_of_ble_eq_true rfl) (q_pin_s hG hS (e_pin_s hp hv) (zInv_q hz hI.1 (by omega)) (fun τ hT => ?_))
    refine xr_iconst (v := -1) cx dL_isStep_462 (by decide) ?_
    refine xr_icmp_eq (tgt := 480) cx dL_isStep_463 (by decide) (fun cq463 => ?_) (fun cq463 => ?_)
    · exact absurd cq463 (swar_ne _)
    · refine xr_aload_0 cx dL_isStep_466 ?_
      refine xr_iconst (v := 3) cx dL_isStep_467 (by decide) ?_
      refine xr_V1i (ν := mX8_count) cx dL_isStep_468 rfl ml_L_9 vf_X8_count g8 (Nat.le_of_ble_eq_true rfl) (q_count (j := 3) (v := a 8) hG hT rfl (by rw [← upd_ne a (a 7 ^^^ xbit p) (show 8 ≠ 7 by decide)]; rfl) ?_)
      refine xr_iload_7 cx dL_isStep_471 ?_
      refine xr_icmp_ne (tgt := 480) cx dL_isStep_473 (by decide) (fun cq473 => ?_) (fun cq473 => ?_)
      · exact absurd (rfl) cq473
      · refine xr_iconst (v := 1) cx dL_isStep_476 (by decide) ?_
        refine xr_goto (tgt := 481) cx dL_isStep_477 (by decide) ?_
        refine xr_zret cx cz dL_isStep_481 rfl rfl ?_
        exact hQ _ ⟨_, _, hT⟩
theorem ls_pin {d : Nat} {w : XO} {E : XEnv} {a : Nat → Int32} {hl : List (Nat → Int32)} {σ : XSt} {Q : Int32 → XSt → Prop} {x y z : Int32} {p : Nat} (hG : xGl E) (cx : CX (d + 7) w E mL_isStep) (cz : CZi w E Q) (hS : zLS σ a hl) (hp : p < 6) (hQ : ∀ τ, zLI τ → Q 1 τ) : XG w E 441 [some (.ref (xad E 0)), some (.int x), some (.int y), some (.int z), some (.int (nI p)), some (.int (a 1)), some (.int (a 2)), some (.int (a 8)), some (.int (a 9)), none, none, none, none] [] σ := by
  obtain ⟨g8, g72, g73, g158, g159, g160, g161, g162, g163, L9, L30, L51, L74, L95, L116, L137⟩ := id hG
  have hI := hS.1.2.1
  have hz := hS.2.2.1
  obtain ⟨b1, b2, b3, b4⟩ := xIx_b hI.1
  obtain ⟨ix1, ix2, ix3, ix4, -⟩ := id hI.1
  refine xr_aload_0 cx dL_isStep_441 ?_
  refine xr_iload_4 cx dL_isStep_442 ?_
  refine xr_iload_3 cx dL_isStep_444 ?_
  refine xr_iconst (v := 3) cx dL_isStep_445 (by decide) ?_
  refine xr_ishr cx dL_isStep_446 ?_
  refine xr_iconst (v := 3) cx dL_isStep_447 (by decide) ?_
  refine xr_S2i (ν := mL_up) cx dL_isStep_448 rfl ml_L_15 sf_L_up (Nat.le_of_ble_eq_true rfl) (m_L_up 3 rfl (by decide) (by decide) (fun j hj => ?_))
  refine xr_if_ne (tgt := 458) cx dL_isStep_451 (by decide) (fun cq451 => ?_) (fun cq451 => ?_)
  · refine xr_iconst (v := 0) cx dL_isStep_458 (by decide) ?_
    exact ls_pint hG cx cz hS hp hQ
  · refine xr_iconst (v := 1) cx dL_isStep_454 (by decide) ?_
    refine xr_goto (tgt := 459) cx dL_isStep_455 (by decide) ?_
    exact ls_pint hG cx cz hS hp hQ
theorem ls_wipe {d : Nat} {w : XO} {E : XEnv} {a : Nat → Int32} {hl : List (Nat → Int32)} {σ : XSt} {Q : Int32 → XSt → Prop} {x y z : Int32} {p : Nat} (hG : xGl E) (cx : CX (d + 7) w E mL_isStep) (cz : CZi w E Q) (hS : zLS σ a hl) (hp : p < 6) (hQ : ∀ τ, zLI τ → Q 1 τ) : XG w E 482 [some (.ref (xad E 0)), some (.int x), some (.int y), some (.int z), some (.int (nI p)), some (.int (a 1)), some (.int (a 2)), some (.int (a 8)), some (.int (a 9)), none, none, none, none] [] σ := by
  obtain ⟨g8, g72, g73, g158, g159, g160, g161, g162, g163, L9, L30, L51, L74, L95, L116, L137⟩ := id hG
  have hI := hS.1.2.1
  have hz := hS.2.2.1
  obtain ⟨b1, b2, b3, b4⟩ := xIx_b hI.1
  obtain ⟨ix1, ix2, ix3, ix4, -⟩ := id hI.1
  by_cases hf : mFront a p = true
  · by_cases hb : bt (a 7) p = true
    · refine xr_aload_0 cx dL_isStep_482 ?_
      refine xr_iload_4 cx dL_isStep_483 ?_
      refine xr_iconst (v := 0) cx dL_isStep_485 (by decide) ?_
      refine xr_V2i (ν := mX8_panel) cx dL_isStep_486 rfl ml_L_38 vf_X8_panel g8 (Nat.le_of_ble_eq_true rfl) (q_panel (j := 0) (v := a (17 + p)) hG hS hp rfl rfl rfl ?_)
      refine xr_S1i (ν := mL_bits) cx dL_isStep_489 rfl ml_L_35 sf_L_bits (Nat.le_of_ble_eq_true rfl) (m_L_bits ?_)
      refine xr_istore_9 cx dL_isStep_492 ?_
      refine xr_aload_0 cx dL_isStep_494 ?_
      refine xr_iload_4 cx dL_isStep_495 ?_
      refine xr_iconst (v := 2) cx dL_isStep_497 (by decide) ?_
      refine xr_V2i (ν := mX8_panel) cx dL_isStep_498 rfl ml_L_38 vf_X8_panel g8 (Nat.le_of_ble_eq_true rfl) (q_panel (j := 2) (v := if mFront a p = true then 1 else 0) hG hS hp rfl rfl rfl ?_)
      refine xr_iconst (v := 1) cx dL_isStep_501 (by decide) ?_
      refine xr_icmp_ne (tgt := 519) cx dL_isStep_502 (by decide) (fun cq502 => ?_) (fun cq502 => ?_)
      · exact absurd (if_pos hf) cq502
      · refine xr_aload_0 cx dL_isStep_505 ?_
        refine xr_iload_4 cx dL_isStep_506 ?_
        refine xr_iconst (v := 3) cx dL_isStep_508 (by decide) ?_
        refine xr_V2i (ν := mX8_panel) cx dL_isStep_509 rfl ml_L_38 vf_X8_panel g8 (Nat.le_of_ble_eq_true rfl) (q_panel (j := 3) (v := if bt (a 7) p = true then 1 else 0) hG hS hp rfl rfl rfl ?_)
        refine xr_if_ne (tgt := 519) cx dL_isStep_512 (by decide) (fun cq512 => ?_) (fun cq512 => ?_)
        · refine xr_iconst (v := 0) cx dL_isStep_519 (by decide) ?_
          refine xr_istore_10 cx dL_isStep_520 ?_
          refine xr_aload_0 cx dL_isStep_522 ?_
          refine xr_iload_4 cx dL_isStep_523 ?_
          refine xr_V1i (ν := mX8_wipe) cx dL_isStep_525 rfl ml_L_48 vf_X8_wipe g8 (Nat.le_of_ble_eq_true rfl) (q_wipe_n hG hS (e_wipe_m hp (Or.inl hb)) ?_)
          refine xr_istore_11 cx dL_isStep_528 ?_
          refine xr_iload_10 cx dL_isStep_530 ?_
          refine xr_if_ne (tgt := 550) cx dL_isStep_532 (by decide) (fun cq532 => ?_) (fun cq532 => ?_)
          · exact absurd (rfl) cq532
          · refine xr_iload_11 cx dL_isStep_535 ?_
            refine xr_bipush (v := -4) cx dL_isStep_537 (by decide) ?_
            refine xr_icmp_ne (tgt := 546) cx dL_isStep_539 (by decide) (fun cq539 => ?_) (fun cq539 => ?_)
            · exact absurd (rfl) cq539
            · refine xr_iconst (v := 1) cx dL_isStep_542 (by decide) ?_
              refine xr_goto (tgt := 604) cx dL_isStep_543 (by decide) ?_
              refine xr_zret cx cz dL_isStep_604 rfl rfl ?_
              exact hQ _ ⟨_, _, hS⟩
        · exact absurd cq512 (by rw [if_pos hb]; decide)
    · by_cases h0 : a (17 + p) = 0
      · refine xr_aload_0 cx dL_isStep_482 ?_
        refine xr_iload_4 cx dL_isStep_483 ?_
        refine xr_iconst (v := 0) cx dL_isStep_485 (by decide) ?_
        refine xr_V2i (ν := mX8_panel) cx dL_isStep_486 rfl ml_L_38 vf_X8_panel g8 (Nat.le_of_ble_eq_true rfl) (q_panel (j := 0) (v := a (17 + p)) hG hS hp rfl rfl rfl ?_)
        refine xr_S1i (ν := mL_bits) cx dL_isStep_489 rfl ml_L_35 sf_L_bits (Nat.le_of_ble_eq_true rfl) (m_L_bits ?_)
        refine xr_istore_9 cx dL_isStep_492 ?_
        refine xr_aload_0 cx dL_isStep_494 ?_
        refine xr_iload_4 cx dL_isStep_495 ?_
        refine xr_iconst (v := 2) cx dL_isStep_497 (by decide) ?_
        refine xr_V2i (ν := mX8_panel) cx dL_isStep_498 rfl ml_L_38 vf_X8_panel g8 (Nat.le_of_ble_eq_true rfl) (q_panel (j := 2) (v := if mFront a p = true then 1 else 0) hG hS hp rfl rfl rfl ?_)
        refine xr_iconst (v := 1) cx dL_isStep_501 (by decide) ?_
        refine xr_icmp_ne (tgt := 519) cx dL_isStep_502 (by decide) (fun cq502 => ?_) (fun cq502 => ?_)
        · exact absurd (if_pos hf) cq502
        · refine xr_aload_0 cx dL_isStep_505 ?_
          refine xr_iload_4 cx dL_isStep_506 ?_
          refine xr_iconst (v := 3) cx dL_isStep_508 (by decide) ?_
          refine xr_V2i (ν := mX8_panel) cx dL_isStep_509 rfl ml_L_38 vf_X8_panel g8 (Nat.le_of_ble_eq_true rfl) (q_panel (j := 3) (v := if bt (a 7) p = true then 1 else 0) hG hS hp rfl rfl rfl ?_)
          refine xr_if_ne (tgt := 519) cx dL_isStep_512 (by decide) (fun cq512 => ?_) (fun cq512 => ?_)
          · exact absurd (if_neg hb) cq512
          · refine xr_iconst (v := 1) cx dL_isStep_515 (by decide) ?_
            refine xr_goto (tgt := 520) cx dL_isStep_516 (by decide) ?_
            refine xr_istore_10 cx dL_isStep_520 ?_
            refine xr_aload_0 cx dL_isStep_522 ?_
            refine xr_iload_4 cx dL_isStep_523 ?_
            refine xr_V1i (ν := mX8_wipe) cx dL_isStep_525 rfl ml_L_48 vf_X8_wipe g8 (Nat.le_of_ble_eq_true rfl) (q_wipe_n hG hS (e_wipe_0 hp hb hf h0) ?_)
            refine xr_istore_11 cx dL_isStep_528 ?_
            refine xr_iload_10 cx dL_isStep_530 ?_
            refine xr_if_ne (tgt := 550) cx dL_isStep_532 (by decide) (fun cq532 => ?_) (fun cq532 => ?_)
            · refine xr_iload_9 cx dL_isStep_550 ?_
              refine xr_if_ne (tgt := 570) cx dL_isStep_552 (by decide) (fun cq552 => ?_) (fun cq552 => ?_)
              · exact absurd ((zB_0 (on_30 hI hp)).mpr h0) cq552
              · refine xr_iload_11 cx dL_isStep_555 ?_
                refine xr_bipush (v := -5) cx dL_isStep_557 (by decide) ?_
                refine xr_icmp_ne (tgt := 566) cx dL_isStep_559 (by decide) (fun cq559 => ?_) (fun cq559 => ?_)
                · exact absurd (rfl) cq559
                · refine xr_iconst (v := 1) cx dL_isStep_562 (by decide) ?_
                  refine xr_goto (tgt := 604) cx dL_isStep_563 (by decide) ?_
                  refine xr_zret cx cz dL_isStep_604 rfl rfl ?_
                  exact hQ _ ⟨_, _, hS⟩
            · exact absurd cq532 (by decide)
      · refine xr_aload_0 cx dL_isStep_482 ?_
        refine xr_iload_4 cx dL_isStep_483 ?_
        refine xr_iconst (v := 0) cx dL_isStep_485 (by decide) ?_
        refine xr_V2i (ν := mX8_panel) cx dL_isStep_486 rfl ml_L_38 vf_X8_panel g8 (Nat.le_of_ble_eq_true rfl) (q_panel (j := 0) (v := a (17 + p)) hG hS hp rfl rfl rfl ?_)
        refine xr_S1i (ν := mL_bits) cx dL_isStep_489 rfl ml_L_35 sf_L_bits (Nat.le_of_ble_eq_true rfl) (m_L_bits ?_)
        refine xr_istore_9 cx dL_isStep_492 ?_
        refine xr_aload_0 cx dL_isStep_494 ?_
        refine xr_iload_4 cx dL_isStep_495 ?_
        refine xr_iconst (v := 2) cx dL_isStep_497 (by decide) ?_
        refine xr_V2i (ν := mX8_panel) cx dL_isStep_498 rfl ml_L_38 vf_X8_panel g8 (Nat.le_of_ble_eq_true rfl) (q_panel (j := 2) (v := if mFront a p = true then 1 else 0) hG hS hp rfl rfl rfl ?_)
        refine xr_iconst (v := 1) cx dL_isStep_501 (by decide) ?_
        refine xr_icmp_ne (tgt := 519) cx dL_isStep_502 (by decide) (fun cq502 => ?_) (fun cq502 => ?_)
        · exact absurd (if_pos hf) cq502
        · refine xr_aload_0 cx dL_isStep_505 ?_
          refine xr_iload_4 cx dL_isStep_506 ?_
          refine xr_iconst (v := 3) cx dL_isStep_508 (by decide) ?_
          refine xr_V2i (ν := mX8_panel) cx dL_isStep_509 rfl ml_L_38 vf_X8_panel g8 (Nat.le_of_ble_eq_true rfl) (q_panel (j := 3) (v := if bt (a 7) p = true then 1 else 0) hG hS hp rfl rfl rfl ?_)
          refine xr_if_ne (tgt := 519) cx dL_isStep_512 (by decide) (fun cq512 => ?_) (fun cq512 => ?_)
          · exact absurd (if_neg hb) cq512
          · refine xr_iconst (v := 1) cx dL_isStep_515 (by decide) ?_
            refine xr_goto (tgt := 520) cx dL_isStep_516 (by decide) ?_
            refine xr_istore_10 cx dL_isStep_520 ?_
            refine xr_aload_0 cx dL_isStep_522 ?_
            refine xr_iload_4 cx dL_isStep_523 ?_
            refine xr_V1i (ν := mX8_wipe) cx dL_isStep_525 rfl ml_L_48 vf_X8_wipe g8 (Nat.le_of_ble_eq_true rfl) (q_wipe_s hG hS (e_wipe_s hp hb hf h0) (zInv_wipe hz hI.1 hp) (fun τ hT => ?_))
            refine xr_istore_11 cx dL_isStep_528 ?_
            refine xr_iload_10 cx dL_isStep_530 ?_
            refine xr_if_ne (tgt := 550) cx dL_isStep_532 (by decide) (fun cq532 => ?_) (fun cq532 => ?_)
            · refine xr_iload_9 cx dL_isStep_550 ?_
              refine xr_if_ne (tgt := 570) cx dL_isStep_552 (by decide) (fun cq552 => ?_) (fun cq552 => ?_)
              · refine xr_iload_11 cx dL_isStep_570 ?_
                refine xr_iload_9 cx dL_isStep_572 ?_
                refine xr_icmp_ne (tgt := 603) cx dL_isStep_574 (by decide) (fun cq574 => ?_) (fun cq574 => ?_)
                · exact absurd (swar_b (on_30 hI hp)) cq574
                · refine xr_aload_0 cx dL_isStep_577 ?_
                  refine xr_iload_4 cx dL_isStep_578 ?_
                  refine xr_iconst (v := 0) cx dL_isStep_580 (by decide) ?_
                  refine xr_V2i (ν := mX8_panel) cx dL_isStep_581 rfl ml_L_38 vf_X8_panel g8 (Nat.le_of_ble_eq_true rfl) (q_panel (j := 0) (v := mWipe a p (17 + p)) hG hT hp rfl rfl rfl ?_)
                  refine xr_if_ne (tgt := 603) cx dL_isStep_584 (by decide) (fun cq584 => ?_) (fun cq584 => ?_)
                  · exact absurd (mWipe_on hp) cq584
                  · refine xr_aload_0 cx dL_isStep_587 ?_
                    refine xr_iconst (v := 4) cx dL_isStep_588 (by decide) ?_
                    refine xr_V1i (ν := mX8_count) cx dL_isStep_589 rfl ml_L_9 vf_X8_count g8 (Nat.le_of_ble_eq_true rfl) (q_count (j := 4) (v := mWipe a p 9) hG hT rfl rfl ?_)
                    refine xr_iload_8 cx dL_isStep_592 ?_
                    refine xr_iconst (v := 1) cx dL_isStep_594 (by decide) ?_
                    refine xr_iadd cx dL_isStep_595 ?_
                    refine xr_icmp_ne (tgt := 603) cx dL_isStep_596 (by decide) (fun cq596 => ?_) (fun cq596 => ?_)
                    · exact absurd (mWipe_9) cq596
                    · refine xr_iconst (v := 1) cx dL_isStep_599 (by decide) ?_
                      refine xr_goto (tgt := 604) cx dL_isStep_600 (by decide) ?_
                      refine xr_zret cx cz dL_isStep_604 rfl rfl ?_
                      exact hQ _ ⟨_, _, hT⟩
              · exact absurd cq552 (fun q => h0 ((zB_0 (on_30 hI hp)).mp q))
            · exact absurd cq532 (by decide)
  · refine xr_aload_0 cx dL_isStep_482 ?_
    refine xr_iload_4 cx dL_isStep_483 ?_
    refine xr_iconst (v := 0) cx dL_isStep_485 (by decide) ?_
    refine xr_V2i (ν := mX8_panel) cx dL_isStep_486 rfl ml_L_38 vf_X8_panel g8 (Nat.le_of_ble_eq_true rfl) (q_panel (j := 0) (v := a (17 + p)) hG hS hp rfl rfl rfl ?_)
    refine xr_S1i (ν := mL_bits) cx dL_isStep_489 rfl ml_L_35 sf_L_bits (Nat.le_of_ble_eq_true rfl) (m_L_bits ?_)
    refine xr_istore_9 cx dL_isStep_492 ?_
    refine xr_aload_0 cx dL_isStep_494 ?_
    refine xr_iload_4 cx dL_isStep_495 ?_
    refine xr_iconst (v := 2) cx dL_isStep_497 (by decide) ?_
    refine xr_V2i (ν := mX8_panel) cx dL_isStep_498 rfl ml_L_38 vf_X8_panel g8 (Nat.le_of_ble_eq_true rfl) (q_panel (j := 2) (v := if mFront a p = true then 1 else 0) hG hS hp rfl rfl rfl ?_)
    refine xr_iconst (v := 1) cx dL_isStep_501 (by decide) ?_
    refine xr_icmp_ne (tgt := 519) cx dL_isStep_502 (by decide) (fun cq502 => ?_) (fun cq502 => ?_)
    · refine xr_iconst (v := 0) cx dL_isStep_519 (by decide) ?_
      refine xr_istore_10 cx dL_isStep_520 ?_
      refine xr_aload_0 cx dL_isStep_522 ?_
      refine xr_iload_4 cx dL_isStep_523 ?_
      refine xr_V1i (ν := mX8_wipe) cx dL_isStep_525 rfl ml_L_48 vf_X8_wipe g8 (Nat.le_of_ble_eq_true rfl) (q_wipe_n hG hS (e_wipe_m hp (Or.inr hf)) ?_)
      refine xr_istore_11 cx dL_isStep_528 ?_
      refine xr_iload_10 cx dL_isStep_530 ?_
      refine xr_if_ne (tgt := 550) cx dL_isStep_532 (by decide) (fun cq532 => ?_) (fun cq532 => ?_)
      · exact absurd (rfl) cq532
      · refine xr_iload_11 cx dL_isStep_535 ?_
        refine xr_bipush (v := -4) cx dL_isStep_537 (by decide) ?_
        refine xr_icmp_ne (tgt := 546) cx dL_isStep_539 (by decide) (fun cq539 => ?_) (fun cq539 => ?_)
        · exact absurd (rfl) cq539
        · refine xr_iconst (v := 1) cx dL_isStep_542 (by decide) ?_
          refine xr_goto (tgt := 604) cx dL_isStep_543 (by decide) ?_
          refine xr_zret cx cz dL_isStep_604 rfl rfl ?_
          exact hQ _ ⟨_, _, hS⟩
    · exact absurd cq502 (by rw [if_neg hf]; decide)
theorem ls_photo {d : Nat} {w : XO} {E : XEnv} {a : Nat → Int32} {hl : List (Nat → Int32)} {σ : XSt} {Q : Int32 → XSt → Prop} {x y z : Int32} {p : Nat} (hG : xGl E) (cx : CX (d + 7) w E mL_isStep) (cz : CZi w E Q) (hS : zLS σ a hl) (hp : p < 6) (hQ : ∀ τ, zLI τ → Q 1 τ) : XG w E 605 [some (.ref (xad E 0)), some (.int x), some (.int y), some (.int z), some (.int (nI p)), some (.int (a 1)), some (.int (a 2)), some (.int (a 8)), some (.int (a 9)), none, none, none, none] [] σ := by
  obtain ⟨g8, g72, g73, g158, g159, g160, g161, g162, g163, L9, L30, L51, L74, L95, L116, L137⟩ := id hG
  have hI := hS.1.2.1
  have hz := hS.2.2.1
  obtain ⟨b1, b2, b3, b4⟩ := xIx_b hI.1
  obtain ⟨ix1, ix2, ix3, ix4, -⟩ := id hI.1
  by_cases hf : mFront a p = true
  · by_cases h0 : a (17 + p) = 0
    · refine xr_aload_0 cx dL_isStep_605 ?_
      refine xr_iload_4 cx dL_isStep_606 ?_
      refine xr_iconst (v := 5) cx dL_isStep_608 (by decide) ?_
      refine xr_V2i (ν := mX8_panel) cx dL_isStep_609 rfl ml_L_38 vf_X8_panel g8 (Nat.le_of_ble_eq_true rfl) (q_panel (j := 5) (v := a (17 + p) &&& (mPh a ^^^ (-1))) hG hS hp rfl rfl rfl ?_)
      refine xr_S1i (ν := mL_bits) cx dL_isStep_612 rfl ml_L_35 sf_L_bits (Nat.le_of_ble_eq_true rfl) (m_L_bits ?_)
      refine xr_istore_9 cx dL_isStep_615 ?_
      refine xr_aload_0 cx dL_isStep_617 ?_
      refine xr_iconst (v := 5) cx dL_isStep_618 (by decide) ?_
      refine xr_V1i (ν := mX8_count) cx dL_isStep_619 rfl ml_L_9 vf_X8_count g8 (Nat.le_of_ble_eq_true rfl) (q_count (j := 5) (v := a 10) hG hS rfl rfl ?_)
      refine xr_istore_10 cx dL_isStep_622 ?_
      refine xr_aload_0 cx dL_isStep_624 ?_
      refine xr_iload_4 cx dL_isStep_625 ?_
      refine xr_V1i (ν := mX8_photo) cx dL_isStep_627 rfl ml_L_51 vf_X8_photo g8 (Nat.le_of_ble_eq_true rfl) (q_photo_n hG hS (e_photo_m hp (Or.inr h0)) ?_)
      refine xr_istore_11 cx dL_isStep_630 ?_
      refine xr_iload_11 cx dL_isStep_632 ?_
      refine xr_if_ge (tgt := 679) cx dL_isStep_634 (by decide) (fun cq634 => ?_) (fun cq634 => ?_)
      · exact absurd cq634 (by decide)
      · refine xr_iload_11 cx dL_isStep_637 ?_
        refine xr_bipush (v := -4) cx dL_isStep_639 (by decide) ?_
        refine xr_icmp_ne (tgt := 664) cx dL_isStep_641 (by decide) (fun cq641 => ?_) (fun cq641 => ?_)
        · exact absurd (rfl) cq641
        · refine xr_aload_0 cx dL_isStep_644 ?_
          refine xr_iload_4 cx dL_isStep_645 ?_
          refine xr_iconst (v := 2) cx dL_isStep_647 (by decide) ?_
          refine xr_V2i (ν := mX8_panel) cx dL_isStep_648 rfl ml_L_38 vf_X8_panel g8 (Nat.le_of_ble_eq_true rfl) (q_panel (j := 2) (v := if mFront a p = true then 1 else 0) hG hS hp rfl rfl rfl ?_)
          refine xr_if_eq (tgt := 671) cx dL_isStep_651 (by decide) (fun cq651 => ?_) (fun cq651 => ?_)
          · exact absurd cq651 (by rw [if_pos hf]; decide)
          · refine xr_aload_0 cx dL_isStep_654 ?_
            refine xr_iload_4 cx dL_isStep_655 ?_
            refine xr_iconst (v := 0) cx dL_isStep_657 (by decide) ?_
            refine xr_V2i (ν := mX8_panel) cx dL_isStep_658 rfl ml_L_38 vf_X8_panel g8 (Nat.le_of_ble_eq_true rfl) (q_panel (j := 0) (v := a (17 + p)) hG hS hp rfl rfl rfl ?_)
            refine xr_if_eq (tgt := 671) cx dL_isStep_661 (by decide) (fun cq661 => ?_) (fun cq661 => ?_)
            · refine xr_iconst (v := 1) cx dL_isStep_671 (by decide) ?_
              refine xr_goto (tgt := 713) cx dL_isStep_672 (by decide) ?_
              refine xr_zret cx cz dL_isStep_713 rfl rfl ?_
              exact hQ _ ⟨_, _, hS⟩
            · exact absurd (h0) cq661
    · by_cases h40 : 40 ≤ a 10
      · have h40e : a 10 = 40 := by
          rw [ix4] at h40 ⊢
          have := (nI_leI (a := 40) (b := mTk a) (by decide) (by omega)).mp h40
          rw [show mTk a = 40 by omega]
          rfl
        refine xr_aload_0 cx dL_isStep_605 ?_
        refine xr_iload_4 cx dL_isStep_606 ?_
        refine xr_iconst (v := 5) cx dL_isStep_608 (by decide) ?_
        refine xr_V2i (ν := mX8_panel) cx dL_isStep_609 rfl ml_L_38 vf_X8_panel g8 (Nat.le_of_ble_eq_true rfl) (q_panel (j := 5) (v := a (17 + p) &&& (mPh a ^^^ (-1))) hG hS hp rfl rfl rfl ?_)
        refine xr_S1i (ν := mL_bits) cx dL_isStep_612 rfl ml_L_35 sf_L_bits (Nat.le_of_ble_eq_true rfl) (m_L_bits ?_)
        refine xr_istore_9 cx dL_isStep_615 ?_
        refine xr_aload_0 cx dL_isStep_617 ?_
        refine xr_iconst (v := 5) cx dL_isStep_618 (by decide) ?_
        refine xr_V1i (ν := mX8_count) cx dL_isStep_619 rfl ml_L_9 vf_X8_count g8 (Nat.le_of_ble_eq_true rfl) (q_count (j := 5) (v := a 10) hG hS rfl rfl ?_)
        refine xr_istore_10 cx dL_isStep_622 ?_
        refine xr_aload_0 cx dL_isStep_624 ?_
        refine xr_iload_4 cx dL_isStep_625 ?_
        refine xr_V1i (ν := mX8_photo) cx dL_isStep_627 rfl ml_L_51 vf_X8_photo g8 (Nat.le_of_ble_eq_true rfl) (q_photo_n hG hS (e_photo_f hp hf h0 h40) ?_)
        refine xr_istore_11 cx dL_isStep_630 ?_
        refine xr_iload_11 cx dL_isStep_632 ?_
        refine xr_if_ge (tgt := 679) cx dL_isStep_634 (by decide) (fun cq634 => ?_) (fun cq634 => ?_)
        · exact absurd cq634 (by decide)
        · refine xr_iload_11 cx dL_isStep_637 ?_
          refine xr_bipush (v := -4) cx dL_isStep_639 (by decide) ?_
          refine xr_icmp_ne (tgt := 664) cx dL_isStep_641 (by decide) (fun cq641 => ?_) (fun cq641 => ?_)
          · refine xr_iload_10 cx dL_isStep_664 ?_
            refine xr_bipush (v := 40) cx dL_isStep_666 (by decide) ?_
            refine xr_icmp_ne (tgt := 675) cx dL_isStep_668 (by decide) (fun cq668 => ?_) (fun cq668 => ?_)
            · exact absurd (h40e) cq668
            · refine xr_iconst (v := 1) cx dL_isStep_671 (by decide) ?_
              refine xr_goto (tgt := 713) cx dL_isStep_672 (by decide) ?_
              refine xr_zret cx cz dL_isStep_713 rfl rfl ?_
              exact hQ _ ⟨_, _, hS⟩
          · exact absurd cq641 (by decide)
      · have ht : mTk a < 40 := Nat.not_le.mp (fun q => h40 (by rw [ix4]; exact nI_le (a := 40) q (by omega)))
        refine xr_aload_0 cx dL_isStep_605 ?_
        refine xr_iload_4 cx dL_isStep_606 ?_
        refine xr_iconst (v := 5) cx dL_isStep_608 (by decide) ?_
        refine xr_V2i (ν := mX8_panel) cx dL_isStep_609 rfl ml_L_38 vf_X8_panel g8 (Nat.le_of_ble_eq_true rfl) (q_panel (j := 5) (v := a (17 + p) &&& (mPh a ^^^ (-1))) hG hS hp rfl rfl rfl ?_)
        refine xr_S1i (ν := mL_bits) cx dL_isStep_612 rfl ml_L_35 sf_L_bits (Nat.le_of_ble_eq_true rfl) (m_L_bits ?_)
        refine xr_istore_9 cx dL_isStep_615 ?_
        refine xr_aload_0 cx dL_isStep_617 ?_
        refine xr_iconst (v := 5) cx dL_isStep_618 (by decide) ?_
        refine xr_V1i (ν := mX8_count) cx dL_isStep_619 rfl ml_L_9 vf_X8_count g8 (Nat.le_of_ble_eq_true rfl) (q_count (j := 5) (v := a 10) hG hS rfl rfl ?_)
        refine xr_istore_10 cx dL_isStep_622 ?_
        refine xr_aload_0 cx dL_isStep_624 ?_
        refine xr_iload_4 cx dL_isStep_625 ?_
        refine xr_V1i (ν := mX8_photo) cx dL_isStep_627 rfl ml_L_51 vf_X8_photo g8 (Nat.le_of_ble_eq_true rfl) (q_photo_s hG hS (e_photo_s hp hf h0 h40) (zInv_photo hz hI hp ht h0) (fun τ hT => ?_))
        refine xr_istore_11 cx dL_isStep_630 ?_
        refine xr_iload_11 cx dL_isStep_632 ?_
        refine xr_if_ge (tgt := 679) cx dL_isStep_634 (by decide) (fun cq634 => ?_) (fun cq634 => ?_)
        · refine xr_iload_11 cx dL_isStep_679 ?_
          refine xr_iload_9 cx dL_isStep_681 ?_
          refine xr_icmp_ne (tgt := 712) cx dL_isStep_683 (by decide) (fun cq683 => ?_) (fun cq683 => ?_)
          · exact absurd (photo_30 hI hp) cq683
          · refine xr_aload_0 cx dL_isStep_686 ?_
            refine xr_iload_4 cx dL_isStep_687 ?_
            refine xr_iconst (v := 5) cx dL_isStep_689 (by decide) ?_
            refine xr_V2i (ν := mX8_panel) cx dL_isStep_690 rfl ml_L_38 vf_X8_panel g8 (Nat.le_of_ble_eq_true rfl) (q_panel (j := 5) (v := mPhoto a p (17 + p) &&& (mPh (mPhoto a p) ^^^ (-1))) hG hT hp rfl rfl rfl ?_)
            refine xr_if_ne (tgt := 712) cx dL_isStep_693 (by decide) (fun cq693 => ?_) (fun cq693 => ?_)
            · exact absurd (photo_0 hI hp ht) cq693
            · refine xr_aload_0 cx dL_isStep_696 ?_
              refine xr_iconst (v := 5) cx dL_isStep_697 (by decide) ?_
              refine xr_V1i (ν := mX8_count) cx dL_isStep_698 rfl ml_L_9 vf_X8_count g8 (Nat.le_of_ble_eq_true rfl) (q_count (j := 5) (v := mPhoto a p 10) hG hT rfl rfl ?_)
              refine xr_iload_10 cx dL_isStep_701 ?_
              refine xr_iconst (v := 1) cx dL_isStep_703 (by decide) ?_
              refine xr_iadd cx dL_isStep_704 ?_
              refine xr_icmp_ne (tgt := 712) cx dL_isStep_705 (by decide) (fun cq705 => ?_) (fun cq705 => ?_)
              · exact absurd (mPhoto_10) cq705
              · refine xr_iconst (v := 1) cx dL_isStep_708 (by decide) ?_
                refine xr_goto (tgt := 713) cx dL_isStep_709 (by decide) ?_
                refine xr_zret cx cz dL_isStep_713 rfl rfl ?_
                exact hQ _ ⟨_, _, hT⟩
        · exact absurd (Int32.not_lt.mp (swar_nn _)) cq634
  · refine xr_aload_0 cx dL_isStep_605 ?_
    refine xr_iload_4 cx dL_isStep_606 ?_
    refine xr_iconst (v := 5) cx dL_isStep_608 (by decide) ?_
    refine xr_V2i (ν := mX8_panel) cx dL_isStep_609 rfl ml_L_38 vf_X8_panel g8 (Nat.le_of_ble_eq_true rfl) (q_panel (j := 5) (v := a (17 + p) &&& (mPh a ^^^ (-1))) hG hS hp rfl rfl rfl ?_)
    refine xr_S1i (ν := mL_bits) cx dL_isStep_612 rfl ml_L_35 sf_L_bits (Nat.le_of_ble_eq_true rfl) (m_L_bits ?_)
    refine xr_istore_9 cx dL_isStep_615 ?_
    refine xr_aload_0 cx dL_isStep_617 ?_
    refine xr_iconst (v := 5) cx dL_isStep_618 (by decide) ?_
    refine xr_V1i (ν := mX8_count) cx dL_isStep_619 rfl ml_L_9 vf_X8_count g8 (Nat.le_of_ble_eq_true rfl) (q_count (j := 5) (v := a 10) hG hS rfl rfl ?_)
    refine xr_istore_10 cx dL_isStep_622 ?_
    refine xr_aload_0 cx dL_isStep_624 ?_
    refine xr_iload_4 cx dL_isStep_625 ?_
    refine xr_V1i (ν := mX8_photo) cx dL_isStep_627 rfl ml_L_51 vf_X8_photo g8 (Nat.le_of_ble_eq_true rfl) (q_photo_n hG hS (e_photo_m hp (Or.inl hf)) ?_)
    refine xr_istore_11 cx dL_isStep_630 ?_
    refine xr_iload_11 cx dL_isStep_632 ?_
    refine xr_if_ge (tgt := 679) cx dL_isStep_634 (by decide) (fun cq634 => ?_) (fun cq634 => ?_)
    · exact absurd cq634 (by decide)
    · refine xr_iload_11 cx dL_isStep_637 ?_
      refine xr_bipush (v := -4) cx dL_isStep_639 (by decide) ?_
      refine xr_icmp_ne (tgt := 664) cx dL_isStep_641 (by decide) (fun cq641 => ?_) (fun cq641 => ?_)
      · exact absurd (rfl) cq641
      · refine xr_aload_0 cx dL_isStep_644 ?_
        refine xr_iload_4 cx dL_isStep_645 ?_
        refine xr_iconst (v := 2) cx dL_isStep_647 (by decide) ?_
        refine xr_V2i (ν := mX8_panel) cx dL_isStep_648 rfl ml_L_38 vf_X8_panel g8 (Nat.le_of_ble_eq_true rfl) (q_panel (j := 2) (v := if mFront a p = true then 1 else 0) hG hS hp rfl rfl rfl ?_)
        refine xr_if_eq (tgt := 671) cx dL_isStep_651 (by decide) (fun cq651 => ?_) (fun cq651 => ?_)
        · refine xr_iconst (v := 1) cx dL_isStep_671 (by decide) ?_
          refine xr_goto (tgt := 713) cx dL_isStep_672 (by decide) ?_
          refine xr_zret cx cz dL_isStep_713 rfl rfl ?_
          exact hQ _ ⟨_, _, hS⟩
        · exact absurd (if_neg hf) cq651
theorem ls_roomt {d : Nat} {w : XO} {E : XEnv} {a : Nat → Int32} {hl : List (Nat → Int32)} {σ : XSt} {Q : Int32 → XSt → Prop} {x y z : Int32} {p : Nat} (hG : xGl E) (cx : CX (d + 7) w E mL_isStep) (cz : CZi w E Q) (hS : zLS σ a hl) (hp : p < 6) (hQ : ∀ τ, zLI τ → Q 1 τ) {j : Nat} (hj : j < 17) : XG w E 895 [some (.ref (xad E 0)), some (.int x), some (.int y), some (.int z), some (.int (nI p)), some (.int (a 1)), some (.int (a 2)), some (.int (a 8)), some (.int (a 9)), none, none, none, none] [.int (nI (4 + j)), .ref (xad E 0)] σ := by
  obtain ⟨g8, g72, g73, g158, g159, g160, g161, g162, g163, L9, L30, L51, L74, L95, L116, L137⟩ := id hG
  have hI := hS.1.2.1
  have hz := hS.2.2.1
  obtain ⟨b1, b2, b3, b4⟩ := xIx_b hI.1
  obtain ⟨ix1, ix2, ix3, ix4, -⟩ := id hI.1
  have hr : ¬ (nI (4 + j) < 4 ∨ 20 < nI (4 + j)) := fun q => q.elim (nI_nlt (a := 4 + j) (b := 4) (by omega) (by omega)) (nI_nlt (a := 20) (b := 4 + j) (by omega) (by omega))
  by_cases hm : nI (4 + j) < mFull a
  · refine xr_V1i (ν := mX8_setRoom) cx dL_isStep_895 rfl ml_L_57 vf_X8_setRoom g8 (Nat.le_of_ble_eq_true rfl) (q_setRoom_n hG hS (e_room_m hr hm) ?_)
    refine xr_bipush (v := -2) cx dL_isStep_898 (by decide) ?_
    refine xr_icmp_eq (tgt := 907) cx dL_isStep_900 (by decide) (fun cq900 => ?_) (fun cq900 => ?_)
    · exact absurd cq900 (by decide)
    · refine xr_iconst (v := 1) cx dL_isStep_903 (by decide) ?_
      refine xr_goto (tgt := 908) cx dL_isStep_904 (by decide) ?_
      refine xr_zret cx cz dL_isStep_908 rfl rfl ?_
      exact hQ _ ⟨_, _, hS⟩
  · by_cases he : a 0 = nI (4 + j)
    · refine xr_V1i (ν := mX8_setRoom) cx dL_isStep_895 rfl ml_L_57 vf_X8_setRoom g8 (Nat.le_of_ble_eq_true rfl) (q_setRoom_n hG hS (e_room_n hr hm he) ?_)
      refine xr_bipush (v := -2) cx dL_isStep_898 (by decide) ?_
      refine xr_icmp_eq (tgt := 907) cx dL_isStep_900 (by decide) (fun cq900 => ?_) (fun cq900 => ?_)
      · exact absurd cq900 (by decide)
      · refine xr_iconst (v := 1) cx dL_isStep_903 (by decide) ?_
        refine xr_goto (tgt := 908) cx dL_isStep_904 (by decide) ?_
        refine xr_zret cx cz dL_isStep_908 rfl rfl ?_
        exact hQ _ ⟨_, _, hS⟩
    · refine xr_V1i (ν := mX8_setRoom) cx dL_isStep_895 rfl ml_L_57 vf_X8_setRoom g8 (Nat.le_of_ble_eq_true rfl) (q_setRoom_s hG hS (e_room_s hr hm he) (zInv_room hz hI.1 (by omega) (by omega) hm) (fun τ hT => ?_))
      refine xr_bipush (v := -2) cx dL_isStep_898 (by decide) ?_
      refine xr_icmp_eq (tgt := 907) cx dL_isStep_900 (by decide) (fun cq900 => ?_) (fun cq900 => ?_)
      · exact absurd cq900 (fun q => by obtain ⟨r, r1, r2, r3⟩ := hz.1; rw [r3] at q; exact nI_pos (n := r) (by omega) (by rw [q]; decide))
      · refine xr_iconst (v := 1) cx dL_isStep_903 (by decide) ?_
        refine xr_goto (tgt := 908) cx dL_isStep_904 (by decide) ?_
        refine xr_zret cx cz dL_isStep_908 rfl rfl ?_
        exact hQ _ ⟨_, _, hT⟩
theorem ls_room {d : Nat} {w : XO} {E : XEnv} {a : Nat → Int32} {hl : List (Nat → Int32)} {σ : XSt} {Q : Int32 → XSt → Prop} {x y z : Int32} {p : Nat} (hG : xGl E) (cx : CX (d + 7) w E mL_isStep) (cz : CZi w E Q) (hS : zLS σ a hl) (hp : p < 6) (hQ : ∀ τ, zLI τ → Q 1 τ) : XG w E 886 [some (.ref (xad E 0)), some (.int x), some (.int y), some (.int z), some (.int (nI p)), some (.int (a 1)), some (.int (a 2)), some (.int (a 8)), some (.int (a 9)), none, none, none, none] [] σ := by
  obtain ⟨g8, g72, g73, g158, g159, g160, g161, g162, g163, L9, L30, L51, L74, L95, L116, L137⟩ := id hG
  have hI := hS.1.2.1
  have hz := hS.2.2.1
  obtain ⟨b1, b2, b3, b4⟩ := xIx_b hI.1
  obtain ⟨ix1, ix2, ix3, ix4, -⟩ := id hI.1
  refine xr_aload_0 cx dL_isStep_886 ?_
  refine xr_iconst (v := 4) cx dL_isStep_887 (by decide) ?_
  refine xr_iload_3 cx dL_isStep_888 ?_
  refine xr_bipush (v := 17) cx dL_isStep_889 (by decide) ?_
  refine xr_S2i (ν := mL_up) cx dL_isStep_891 rfl ml_L_15 sf_L_up (Nat.le_of_ble_eq_true rfl) (m_L_up 17 rfl (by decide) (by decide) (fun j hj => ?_))
  refine xr_iadd cx dL_isStep_894 ?_
  rw [show (4 : Int32) + nI j = nI (4 + j) from nI_add 4 j]
  exact ls_roomt hG cx cz hS hp hQ hj
theorem ls_undo {d : Nat} {w : XO} {E : XEnv} {a : Nat → Int32} {hl : List (Nat → Int32)} {σ : XSt} {Q : Int32 → XSt → Prop} {x y z : Int32} {p : Nat} (hG : xGl E) (cx : CX (d + 7) w E mL_isStep) (cz : CZi w E Q) (hS : zLS σ a hl) (hp : p < 6) (hQ : ∀ τ, zLI τ → Q 1 τ) : XG w E 909 [some (.ref (xad E 0)), some (.int x), some (.int y), some (.int z), some (.int (nI p)), some (.int (a 1)), some (.int (a 2)), some (.int (a 8)), some (.int (a 9)), none, none, none, none] [] σ := by
  obtain ⟨g8, g72, g73, g158, g159, g160, g161, g162, g163, L9, L30, L51, L74, L95, L116, L137⟩ := id hG
  have hI := hS.1.2.1
  have hz := hS.2.2.1
  obtain ⟨b1, b2, b3, b4⟩ := xIx_b hI.1
  obtain ⟨ix1, ix2, ix3, ix4, -⟩ := id hI.1
  rcases List.eq_nil_or_concat hl with rfl | ⟨l2, c, hlc⟩
  · refine xr_aload_0 cx dL_isStep_909 ?_
    refine xr_bipush (v := 14) cx dL_isStep_910 (by decide) ?_
    refine xr_V1i (ν := mX8_count) cx dL_isStep_912 rfl ml_L_9 vf_X8_count g8 (Nat.le_of_ble_eq_true rfl) (q_count (j := 14) (v := nI ([] : List (Nat → Int32)).length) hG hS rfl rfl ?_)
    refine xr_if_eq (tgt := 925) cx dL_isStep_915 (by decide) (fun cq915 => ?_) (fun cq915 => ?_)
    · refine xr_iconst (v := 1) cx dL_isStep_925 (by decide) ?_
      refine xr_goto (tgt := 930) cx dL_isStep_926 (by decide) ?_
      refine xr_zret cx cz dL_isStep_930 rfl rfl ?_
      exact hQ _ ⟨_, _, hS⟩
    · exact absurd (rfl) cq915
  · obtain rfl : hl = l2 ++ [c] := by simpa using hlc
    have hlen := CH_le hS.1.2.2.1
    refine xr_aload_0 cx dL_isStep_909 ?_
    refine xr_bipush (v := 14) cx dL_isStep_910 (by decide) ?_
    refine xr_V1i (ν := mX8_count) cx dL_isStep_912 rfl ml_L_9 vf_X8_count g8 (Nat.le_of_ble_eq_true rfl) (q_count (j := 14) (v := nI (l2 ++ [c]).length) hG hS rfl rfl ?_)
    refine xr_if_eq (tgt := 925) cx dL_isStep_915 (by decide) (fun cq915 => ?_) (fun cq915 => ?_)
    · exact absurd cq915 (nI_ne0 (by simp) (by omega))
    · refine xr_aload_0 cx dL_isStep_918 ?_
      refine xr_V0i (ν := mX8_undo) cx dL_isStep_919 rfl ml_L_60 vf_X8_undo g8 (Nat.le_of_ble_eq_true rfl) (q_undo_s hG hS (fun τ hT => ?_))
      refine xr_if_lt (tgt := 929) cx dL_isStep_922 (by decide) (fun cq922 => ?_) (fun cq922 => ?_)
      · exact absurd cq922 (nI_pos (by simp at hlen; omega))
      · refine xr_iconst (v := 1) cx dL_isStep_925 (by decide) ?_
        refine xr_goto (tgt := 930) cx dL_isStep_926 (by decide) ?_
        refine xr_zret cx cz dL_isStep_930 rfl rfl ?_
        exact hQ _ ⟨_, _, hT⟩
