theorem ynw_L_10 : yNew RL 10 8 6 [.null, .null, .null, .null, .null, .int 0] := ⟨RX8, TX8, tyX8, rfl, cf_X8, tyX8_ok, x_good 17 (by decide +kernel) rfl, x_good 18 (by decide +kernel) rfl, x_good 5 (by decide +kernel) rfl, fun j hj => by rcases (show j = 0 ∨ j = 1 ∨ j = 2 ∨ j = 3 ∨ j = 4 ∨ j = 5 by omega) with rfl | rfl | rfl | rfl | rfl | rfl <;> rfl⟩
theorem yif_L_72 : yIf RL mX8_init 72 0 := ⟨rfl, x_good 20 (by decide +kernel) rfl, x_good 5 (by decide +kernel) rfl, x_good 21 (by decide +kernel) rfl, rfl, ⟨by decide, by decide⟩, by decide +kernel, by decide, Or.inl ml_L_72⟩
abbrev mL : XMt := (⟨RL, "law", ""⟩, cL_law, 4, ret)
theorem lw_loop {d : Nat} {w : XO} {E : XEnv} {b N : Nat} {xs : Nat → Int32} (hG : xGl E) (cx : CX (d + 9) w E mL) (lx : LX w b N xs) (hN : N ≤ 260) (hend : ∀ (lv : List (Option Value)) (τ : XSt), XG w E 91 lv [.int 1] τ) : ∀ (n i : Nat) (σ : XSt), i + n = 60 → zLI σ → XG w E 12 [some (.ref b), some (.ref (xad E 0)), some (.int 1), some (.int (nI i))] [] σ := by
  obtain ⟨g8, g72, g73, g158, g159, g160, g161, g162, g163, L9, L30, L51, L74, L95, L116, L137⟩ := id hG
  intro n
  induction n with
  | zero =>
    intro i σ hi hI
    obtain rfl : i = 60 := by omega
    obtain ⟨a, hl, hS⟩ := hI
    refine xr_iload_3 cx dL_law_12 ?_
    refine xr_bipush (v := 60) cx dL_law_13 (by decide) ?_
    refine xr_icmp_ge (tgt := 75) cx dL_law_15 (by decide) (fun cq15 => ?_) (fun cq15 => ?_)
    · refine xr_iload_2 cx dL_law_75 ?_
      refine xr_if_eq (tgt := 90) cx dL_law_76 (by decide) (fun cq76 => ?_) (fun cq76 => ?_)
      · exact absurd cq76 (by decide)
      · refine xr_aload_1 cx dL_law_79 ?_
        refine xr_S1i (ν := mL_isForeseen) cx dL_law_80 rfl ml_L_85 sf_L_isForeseen (Nat.le_of_ble_eq_true rfl) (m_L_isForeseen hG hS (fun τ hI1 => ?_))
        refine xr_if_eq (tgt := 90) cx dL_law_83 (by decide) (fun cq83 => ?_) (fun cq83 => ?_)
        · exact absurd cq83 (by decide)
        · refine xr_iconst (v := 1) cx dL_law_86 (by decide) ?_
          refine xr_goto (tgt := 91) cx dL_law_87 (by decide) ?_
          exact hend _ _
    · exact absurd (Int32.le_refl 60) cq15
  | succ n ih =>
    intro i σ hi hI
    obtain ⟨a, hl, hS⟩ := hI
    refine xr_iload_3 cx dL_law_12 ?_
    refine xr_bipush (v := 60) cx dL_law_13 (by decide) ?_
    refine xr_icmp_ge (tgt := 75) cx dL_law_15 (by decide) (fun cq15 => ?_) (fun cq15 => ?_)
    · exact absurd cq15 (nI_ge (a := i) (b := 60) (by omega) (by decide))
    · refine xr_iload_2 cx dL_law_18 ?_
      refine xr_if_eq (tgt := 75) cx dL_law_19 (by decide) (fun cq19 => ?_) (fun cq19 => ?_)
      · exact absurd cq19 (by decide)
      · refine xr_aload_1 cx dL_law_22 ?_
        refine xr_aload_0 cx dL_law_23 ?_
        refine xr_iload_3 cx dL_law_24 ?_
        refine xr_cell (k := i) lx hN cx dL_law_25 rfl ml_L_73 (Nat.le_of_ble_eq_true rfl) rfl (by omega) (fun z1 => ?_)
        refine xr_aload_0 cx dL_law_28 ?_
        refine xr_iload_3 cx dL_law_29 ?_
        refine xr_iconst (v := 1) cx dL_law_30 (by decide) ?_
        refine xr_iadd cx dL_law_31 ?_
        refine xr_cell (k := i + 1) lx hN cx dL_law_32 rfl ml_L_73 (Nat.le_of_ble_eq_true rfl) (nI_1 i) (by omega) (fun z2 => ?_)
        refine xr_iconst (v := 2) cx dL_law_35 (by decide) ?_
        refine xr_ishr cx dL_law_36 ?_
        refine xr_S3i (ν := mL_isStep) cx dL_law_37 rfl ml_L_77 sf_L_isStep (Nat.le_of_ble_eq_true rfl) (m_L_isStep hG hS (fun τ hI1 => ?_))
        obtain ⟨a1, hl1, hS1⟩ := hI1
        refine xr_if_eq (tgt := 67) cx dL_law_40 (by decide) (fun cq40 => ?_) (fun cq40 => ?_)
        · exact absurd cq40 (by decide)
        · refine xr_aload_1 cx dL_law_43 ?_
          refine xr_S1i (ν := mL_isWell) cx dL_law_44 rfl ml_L_81 sf_L_isWell (Nat.le_of_ble_eq_true rfl) (m_L_isWell hG hS1 ?_)
          refine xr_if_eq (tgt := 67) cx dL_law_47 (by decide) (fun cq47 => ?_) (fun cq47 => ?_)
          · exact absurd cq47 (by decide)
          · refine xr_iload_3 cx dL_law_50 ?_
            refine xr_iconst (v := 5) cx dL_law_51 (by decide) ?_
            refine xr_irem cx dL_law_52 (by decide) ?_
            refine xr_if_gt (tgt := 63) cx dL_law_53 (by decide) (fun cq53 => ?_) (fun cq53 => ?_)
            · refine xr_iconst (v := 1) cx dL_law_63 (by decide) ?_
              refine xr_goto (tgt := 68) cx dL_law_64 (by decide) ?_
              refine xr_istore_2 cx dL_law_68 ?_
              refine xr_iinc_3 (y := 1) cx dL_law_69 (by decide) ?_
              refine xr_goto (tgt := 12) cx dL_law_72 (by decide) ?_
              rw [nI_1]
              exact ih (i + 1) _ (by omega) ⟨_, _, hS1⟩
            · refine xr_aload_1 cx dL_law_56 ?_
              refine xr_S1i (ν := mL_isForeseen) cx dL_law_57 rfl ml_L_85 sf_L_isForeseen (Nat.le_of_ble_eq_true rfl) (m_L_isForeseen hG hS1 (fun τ2 hI2 => ?_))
              obtain ⟨a2, hl2, hS1⟩ := hI2
              refine xr_if_eq (tgt := 67) cx dL_law_60 (by decide) (fun cq60 => ?_) (fun cq60 => ?_)
              · exact absurd cq60 (by decide)
              · refine xr_iconst (v := 1) cx dL_law_63 (by decide) ?_
                refine xr_goto (tgt := 68) cx dL_law_64 (by decide) ?_
                refine xr_istore_2 cx dL_law_68 ?_
                refine xr_iinc_3 (y := 1) cx dL_law_69 (by decide) ?_
                refine xr_goto (tgt := 12) cx dL_law_72 (by decide) ?_
                rw [nI_1]
                exact ih (i + 1) _ (by omega) ⟨_, _, hS1⟩
def EL : List XSh := [.inl (8, [some 1, some 22, some 43, some 64, some 150, none]), .inl (2, [some 2, some 7, some 14, some 19]), .inl (6, [some 3, some 5, none, none]), .inl (5, [some 4]), .inr (.inl (0, 30)), .inl (5, [some 6]), .inr (.inl (0, 30)), .inl (0, [some 8, some 10, some 12, none, none, none, none]), .inl (5, [some 9]), .inr (.inl (0, 6)), .inl (5, [some 11]), .inr (.inl (0, 6)), .inl (5, [some 13]), .inr (.inl (0, 3)), .inl (3, [some 15, some 17, none, none]), .inl (5, [some 16]), .inr (.inl (0, 40)), .inl (5, [some 18]), .inr (.inl (0, 40)), .inl (7, [some 20, none, none, none, none, none, none]), .inl (5, [some 21]), .inr (.inl (0, 30)), .inl (2, [some 23, some 28, some 35, some 40]), .inl (6, [some 24, some 26, none, none]), .inl (5, [some 25]), .inr (.inl (0, 30)), .inl (5, [some 27]), .inr (.inl (0, 30)), .inl (0, [some 29, some 31, some 33, none, none, none, none]), .inl (5, [some 30]), .inr (.inl (0, 6)), .inl (5, [some 32]), .inr (.inl (0, 6)), .inl (5, [some 34]), .inr (.inl (0, 3)), .inl (3, [some 36, some 38, none, none]), .inl (5, [some 37]), .inr (.inl (0, 40)), .inl (5, [some 39]), .inr (.inl (0, 40)), .inl (7, [some 41, none, none, none, none, none, none]), .inl (5, [some 42]), .inr (.inl (0, 30)), .inl (2, [some 44, some 49, some 56, some 61]), .inl (6, [some 45, some 47, none, none]), .inl (5, [some 46]), .inr (.inl (0, 30)), .inl (5, [some 48]), .inr (.inl (0, 30)), .inl (0, [some 50, some 52, some 54, none, none, none, none]), .inl (5, [some 51]), .inr (.inl (0, 6)), .inl (5, [some 53]), .inr (.inl (0, 6)), .inl (5, [some 55]), .inr (.inl (0, 3)), .inl (3, [some 57, some 59, none, none]), .inl (5, [some 58]), .inr (.inl (0, 40)), .inl (5, [some 60]), .inr (.inl (0, 40)), .inl (7, [some 62, none, none, none, none, none, none]), .inl (5, [some 63]), .inr (.inl (0, 30)), .inl (1, [some 65, none, none]), .inr (.inr [66, 87, 108, 129]), .inl (2, [some 67, some 72, some 79, some 84]), .inl (6, [some 68, some 70, none, none]), .inl (5, [some 69]), .inr (.inl (0, 30)), .inl (5, [some 71]), .inr (.inl (0, 30)), .inl (0, [some 73, some 75, some 77, none, none, none, none]), .inl (5, [some 74]), .inr (.inl (0, 6)), .inl (5, [some 76]), .inr (.inl (0, 6)), .inl (5, [some 78]), .inr (.inl (0, 3)), .inl (3, [some 80, some 82, none, none]), .inl (5, [some 81]), .inr (.inl (0, 40)), .inl (5, [some 83]), .inr (.inl (0, 40)), .inl (7, [some 85, none, none, none, none, none, none]), .inl (5, [some 86]), .inr (.inl (0, 30)), .inl (2, [some 88, some 93, some 100, some 105]), .inl (6, [some 89, some 91, none, none]), .inl (5, [some 90]), .inr (.inl (0, 30)), .inl (5, [some 92]), .inr (.inl (0, 30)), .inl (0, [some 94, some 96, some 98, none, none, none, none]), .inl (5, [some 95]), .inr (.inl (0, 6)), .inl (5, [some 97]), .inr (.inl (0, 6)), .inl (5, [some 99]), .inr (.inl (0, 3)), .inl (3, [some 101, some 103, none, none]), .inl (5, [some 102]), .inr (.inl (0, 40)), .inl (5, [some 104]), .inr (.inl (0, 40)), .inl (7, [some 106, none, none, none, none, none, none]), .inl (5, [some 107]), .inr (.inl (0, 30)), .inl (2, [some 109, some 114, some 121, some 126]), .inl (6, [some 110, some 112, none, none]), .inl (5, [some 111]), .inr (.inl (0, 30)), .inl (5, [some 113]), .inr (.inl (0, 30)), .inl (0, [some 115, some 117, some 119, none, none, none, none]), .inl (5, [some 116]), .inr (.inl (0, 6)), .inl (5, [some 118]), .inr (.inl (0, 6)), .inl (5, [some 120]), .inr (.inl (0, 3)), .inl (3, [some 122, some 124, none, none]), .inl (5, [some 123]), .inr (.inl (0, 40)), .inl (5, [some 125]), .inr (.inl (0, 40)), .inl (7, [some 127, none, none, none, none, none, none]), .inl (5, [some 128]), .inr (.inl (0, 30)), .inl (2, [some 130, some 135, some 142, some 147]), .inl (6, [some 131, some 133, none, none]), .inl (5, [some 132]), .inr (.inl (0, 30)), .inl (5, [some 134]), .inr (.inl (0, 30)), .inl (0, [some 136, some 138, some 140, none, none, none, none]), .inl (5, [some 137]), .inr (.inl (0, 6)), .inl (5, [some 139]), .inr (.inl (0, 6)), .inl (5, [some 141]), .inr (.inl (0, 3)), .inl (3, [some 143, some 145, none, none]), .inl (5, [some 144]), .inr (.inl (0, 40)), .inl (5, [some 146]), .inr (.inl (0, 40)), .inl (7, [some 148, none, none, none, none, none, none]), .inl (5, [some 149]), .inr (.inl (0, 30)), .inl (4, [some 151, some 153, none, none, some 155, none, none, none]), .inl (5, [some 152]), .inr (.inl (0, 30)), .inl (5, [some 154]), .inr (.inl (0, 30)), .inr (.inl (1, 60))]
set_option maxRecDepth 100000 in
theorem EL_eq : yS8.1 = EL := by decide +kernel
set_option maxRecDepth 100000 in
theorem EL_gl {E : XEnv} (h : E.2.1 = EL) : xGl E := by
  unfold xGl xLec
  rw [h]
  and_intros <;> rfl
def row0 : Nat → Int32 := fun j => if j = 0 then (12 : Int32) else if j = 5 then 2 else if j = 6 then 4 else 0
def st0 : XSt := yS8.2
theorem row0_z {k : Nat} (h : 7 ≤ k) : row0 k = 0 := by
  unfold row0
  rw [if_neg (by omega), if_neg (by omega), if_neg (by omega)]
theorem row0_inv : xInv row0 := by
  have hs : mSt row0 = 0 := by decide +kernel
  have hw : mWr row0 = 0 := by decide +kernel
  refine ⟨⟨by decide +kernel, by decide +kernel, by decide +kernel, by decide +kernel, by decide +kernel, by decide +kernel, by decide +kernel, by decide +kernel⟩, ?_, ?_, ?_, by unfold xWps; decide +kernel, ?_, ?_⟩
  · intro p hp s h1 h2; rw [row0_z (by omega)]; exact b_0 s
  · intro s h1; rw [hs] at h1; omega
  · intro p q hp hq hpq s h1 h2; rw [row0_z (by omega), b_0] at h2; cases h2
  · intro s h1; rw [row0_z (by omega), hw, Nat.zero_sub]; rfl
  · intro s h1 h2; exact row0_z (by omega)
theorem row0_zinv : zInv row0 := by
  have hs : mSt row0 = 0 := by decide +kernel
  have ht : mTk row0 = 0 := by decide +kernel
  refine ⟨⟨12, by decide, by decide, rfl⟩, fun c hc => ?_, fun p hp => ?_, fun s h => by rw [hs] at h; omega, ⟨0, 0, 0, row0_z (by omega), row0_z (by omega), row0_z (by omega), Nat.zero_le _⟩, ?_, fun k h => by rw [ht] at h; omega⟩
  · rcases (show c = 0 ∨ c = 1 ∨ c = 2 by omega) with rfl | rfl | rfl <;> exact Or.inl rfl
  · unfold mLines
    rw [hs]
    show (0 : Int32) ≤ 12
    decide
  · unfold zAk
    rw [row0_z (by omega), row0_z (by omega), row0_z (by omega), xit_id 30 0 0 (fun k y h1 h2 => by rw [row0_z (by omega), Int32.add_zero])]
    rfl
set_option maxRecDepth 100000 in
theorem st0_rb : RB st0 1 row0 := by
  refine ⟨fun i j k h => ?_, by decide +kernel⟩
  unfold kap at h
  split at h
  all_goals (repeat' (split at h))
  all_goals first
    | (cases h; done)
    | (cases h; subst_vars; rfl)
    | (rename_i hj; cases h; obtain ⟨h1, h2⟩ := hj; rcases (show j = 1 ∨ j = 2 ∨ j = 3 ∨ j = 4 ∨ j = 5 ∨ j = 6 by omega) with rfl | rfl | rfl | rfl | rfl | rfl <;> rfl)
    | (rename_i hj; cases h; replace hj : j < 3 := hj; rcases (show j = 0 ∨ j = 1 ∨ j = 2 by omega) with rfl | rfl | rfl <;> rfl)
    | (cases h; rw [row0_z (by omega)]; rfl)
set_option maxRecDepth 100000 in
theorem st0_inv : zLI st0 := ⟨row0, [], ⟨st0_rb, row0_inv, ⟨0, by decide, rfl, rfl, by decide, fun i c h => by cases h⟩, rfl⟩, rfl, row0_zinv, fun c h => by cases h⟩
theorem lw_known {args : Array Value} {s : State} (hts : ∀ v ∈ lw_good, v.before args s = true) (hAO : va_AO "PulledPanels$Lecture" s) : ∃ (D : va_G) (dC : Nat → ClassId), va_K D vwCl (yT dC) s := by
  obtain ⟨c0, i0, h0⟩ := u_known (C := RX0) (T := TX0) (N := 7) (n := 7) hts cf_X0.1 (hts _ (x_good 73 (by decide +kernel) rfl))
  obtain ⟨c1, i1, h1⟩ := u_known (C := RX1) (T := TX1) (N := 3) (n := 3) hts cf_X1.1 (hts _ (x_good 204 (by decide +kernel) rfl))
  obtain ⟨c2, i2, h2⟩ := u_known (C := RX2) (T := TX2) (N := 4) (n := 4) hts cf_X2.1 (hts _ (x_good 26 (by decide +kernel) rfl))
  obtain ⟨c3, i3, h3⟩ := u_known (C := RX3) (T := TX3) (N := 4) (n := 4) hts cf_X3.1 (hts _ (x_good 117 (by decide +kernel) rfl))
  obtain ⟨c4, i4, h4⟩ := u_known (C := RX4) (T := TX4) (N := 8) (n := 8) hts cf_X4.1 (hts _ (x_good 224 (by decide +kernel) rfl))
  obtain ⟨c5, i5, h5⟩ := u_known (C := RX5) (T := TX5) (N := 1) (n := 1) hts cf_X5.1 (hts _ (x_good 38 (by decide +kernel) rfl))
  obtain ⟨c6, i6, h6⟩ := u_known (C := RX6) (T := TX6) (N := 4) (n := 4) hts cf_X6.1 (hts _ (x_good 32 (by decide +kernel) rfl))
  obtain ⟨c7, i7, h7⟩ := u_known (C := RX7) (T := TX7) (N := 7) (n := 7) hts cf_X7.1 (hts _ (x_good 143 (by decide +kernel) rfl))
  obtain ⟨c8, i8, h8⟩ := u_known (C := RX8) (T := TX8) (N := 6) (n := 6) hts cf_X8.1 (hts _ (x_good 18 (by decide +kernel) rfl))
  obtain ⟨cI, kI, mI, x1, x2, x3⟩ := Cond.arrayClass_spec (hts _ y_arrI)
  obtain ⟨cC, kC, mC, z1, z2, z3⟩ := Cond.arrayClass_spec (hts _ y_arrC)
  obtain ⟨mP, cL, kL, w1, w2, w3, w4, w5⟩ := Cond.arrayOver_spec hAO
  refine ⟨(fun k => match k with | 0 => c0 | 1 => c1 | 2 => c2 | 3 => c3 | 4 => c4 | 5 => c5 | 6 => c6 | 7 => c7 | _ => c8, fun k => match k with | 0 => i0 | 1 => i1 | 2 => i2 | 3 => i3 | 4 => i4 | 5 => i5 | 6 => i6 | 7 => i7 | _ => i8), fun k => match k with | 0 => cI | 1 => cC | _ => cL, fun k q hq => ?_, fun k q hq => ?_⟩
  · match k, hq with
    | 0, hq => cases hq; exact h0
    | 1, hq => cases hq; exact h1
    | 2, hq => cases hq; exact h2
    | 3, hq => cases hq; exact h3
    | 4, hq => cases hq; exact h4
    | 5, hq => cases hq; exact h5
    | 6, hq => cases hq; exact h6
    | 7, hq => cases hq; exact h7
    | 8, hq => cases hq; exact h8
    | k + 9, hq => simp [vwCl] at hq
  · match k, hq with
    | 0, hq => cases hq; exact ⟨fun n z => ⟨fun k h => (by cases h), kI, x2, mI, x3⟩, x1⟩
    | 1, hq => cases hq; exact ⟨fun n z => ⟨fun k h => (by cases h), kC, z2, mC, z3⟩, z1⟩
    | 2, hq => cases hq; exact ⟨fun n z => ⟨fun k h => (by cases h), kL, w3, mP, w4⟩, kL, mP, w3, w4, w1, w5⟩
    | k + 3, hq => simp [yT] at hq
/-! THE CLAIM OUT OF ONE WALK OF THE LAW'S BODY. Your part is whole_start (and what it stands on); all else here is the same for every law, but numbers. -/
def R_law : String := "PulledPanelsLaw"
def lw_P (b : Addr) (xs : List Int32) (args : Array Value) (s : State) : Prop := args = #[.ref b] ∧ s.IntsAt b xs ∧ xs.length ≤ 260 ∧ (Jvm.Cond.and given_1 narrow_1).before args s = true
def lw_Q (_ : Array Value) (s : State) (o : Outcome) (t : State) : Prop := o = .returned (some (.int 1)) ∧ Framed s o t [] 600000 7302249
def lw_Z (below : List Frame) (a : Array Value) (s : State) : State → Prop := fun t => ∃ o, t.status = .running ∧ Ended t below o ∧ lw_Q a s o t
/-- the law's own end, with 1 on the stack, nothing written that was there before, its room as the claim has it -/
theorem lw_ret {p : Program} {l : Launch} {e : Env} {s : State} {m : MethodId} {below : List Frame} {meth : Method} {c : Code} {b : Nat} (hx : p.tables.exec = Jvm.exec) (hb : c.code = code) (hr : meth.sig.returnType = ret) (hlocks : meth.locks = false) {pc : Nat} {H : Heap} {ls : Array Slot} (hdg : decode code pc = .ok (.ireturn, 1)) : W p l e room_1 s m #[Value.ref b] below meth c H [] 600000 7302249 (lw_Z below #[Value.ref b] s) (F0 m pc ls [.int 1]) := by
  intro T hT X
  obtain ⟨fs, hret, hrun, hended, hW, hframe⟩ := X.leave (v := some (.int 1)) (hlocks := hlocks) (fun h => by rw [hr] at h; cases h)
  have hmeth' : T.vm.method? m = some meth := X.method'
  refine ⟨T.setFrames fs, ?_, .returned (some (.int 1)), hrun, hended, rfl, ⟨_, rfl⟩, hW, hframe⟩
  jvm_step X.here [X.here.top, hx, hb, hdg, hmeth', hr, ret, narrow_b1]
  (try refine ⟨rfl, ?_⟩); (try refine ⟨rfl, ?_⟩)
  first | (intro acts; rw [hret _ acts rfl rfl rfl]) | rw [hret _ _ rfl rfl rfl]
  exact Steps.refl _
/-- what holds at the law's entry: the machine, the code, the tables' words (any of lw_tbl by 'hts w (by decide +kernel)'), the script of L ints xs at the cell b, what the Statement gives of the start (any of its parts by flat_of_before) -/
def lw_At (p : Program) (s : State) (m : MethodId) (meth : Method) (c : Code) (b L : Nat) (xs : Nat → Int32) : Prop :=
  p.tables.exec = Jvm.exec ∧ c.code = code ∧ meth.sig.returnType = ret ∧ c.maxLocals = 4 ∧ s.vm.findClass R_law = some m.cls ∧ (∀ w ∈ lw_tbl, w.before #[Value.ref b] s = true) ∧ va_X b L xs s s.heap ∧ b < s.heap.size ∧ meth.locks = false ∧ (Jvm.Cond.and given_1 narrow_1).before #[Value.ref b] s = true
theorem whole_start {p : Program} {e : Env} {s : State} {m : MethodId} {below : List Frame} {meth : Method} {c : Code} (l : Launch) (hflags : l.flags = flags0) {b L : Nat} {xs : Nat → Int32} (hL : L ≤ 260) (C0 : lw_At p s m meth c b L xs) : W p l e room_1 s m #[Value.ref b] below meth c s.heap [] 0 0 (lw_Z below #[Value.ref b] s) (entryFrame m ([Value.ref b] : List Value).toArray 4) := by
  obtain ⟨hx, hb, hr, hml, hown, hts, hX, hbl, hlocks, hgv⟩ := id C0
  have hgd : ∀ v ∈ lw_good, v.before #[Value.ref b] s = true := fun v hv => hts v (List.mem_filter.mp hv).1
  have hN : ∀ v ∈ lw_nest, va_Nw v s := fun v hv => va_Nw.of (x_nestT v hv) (hts v (x_nestIn v hv))
  have hAO : va_AO "PulledPanels$Lecture" s := va_AO.of (hts (.arrayOver (.object "PulledPanels$Lecture")) (List.mem_of_getElem? (i := 210) (by decide +kernel)))
  obtain ⟨D, dC, hK⟩ := lw_known hgd hAO
  have hlx : xL ((lg_sl ([.ref b] : List Value) ++ List.replicate (4 - (lg_sl ([.ref b] : List Value)).length) Slot.unset).toArray) [some (.ref b), none, none, none] := xL_entry (as := [.ref b]) (n := 4) (fun u hu => by simp at hu; subst hu; rfl) (Nat.le_of_ble_eq_true rfl)
  rw [lg_entry_eq]
  have cy : CY 9 156 1676 (p, l, e, room_1, s, m, #[Value.ref b], below, meth, c, (fun q => s.heap.size ≤ q), 600000, 7302249, lw_Z below #[Value.ref b] s) D dC mL := ⟨hx, hb, hml, hown, hgd, hN, hAO, hK, fun q h => h, ⟨Nat.le_of_ble_eq_true rfl, Nat.le_of_ble_eq_true rfl, Nat.le_of_ble_eq_true rfl, Nat.le_of_ble_eq_true rfl⟩, hr, hlocks⟩
  have key : YW (p, l, e, room_1, s, m, #[Value.ref b], below, meth, c, (fun q => s.heap.size ≤ q), 600000, 7302249, lw_Z below #[Value.ref b] s) D [] 0 [some (.ref b), none, none, none] [] 0 0 := by
    refine yw_newinit (d := 8) (ν := mX8_init) (as := []) (len := 0) cy (y_X8 (d := 3)) dL_law_0 dL_law_3 (Or.inl ⟨rfl, rfl⟩) dL_law_4 ynw_L_10 yif_L_72 rfl (by decide) (by decide) (by decide) (fun f => ?_)
    refine yw_astore_1 cy dL_law_7 ?_
    intro H locs ls hP hD hS hl
    rw [List.nil_append, EL_eq] at hP hD
    refine W.widen (k := 600000) (n := 7302249) (Nat.le_of_ble_eq_true rfl) (Nat.le_of_ble_eq_true rfl) ?_
    have cx : CX 9 (p, l, e, room_1, s, m, #[Value.ref b], below, meth, c, (fun q => s.heap.size ≤ q), 600000, 7302249, lw_Z below #[Value.ref b] s) (f, EL, D, dC) mL := ⟨hx, hb, hml, hown, hgd, hN, hK, xD_to (E := (f, EL, D, dC)) _ hD, ⟨Nat.le_of_ble_eq_true rfl, Nat.le_of_ble_eq_true rfl, Nat.le_of_ble_eq_true rfl, Nat.le_of_ble_eq_true rfl⟩, hr, hlocks⟩
    have lx : LX (p, l, e, room_1, s, m, #[Value.ref b], below, meth, c, (fun q => s.heap.size ≤ q), 600000, 7302249, lw_Z below #[Value.ref b] s) b L xs := ⟨hX, hbl, Nat.not_le.mpr hbl⟩
    have hgo : XG (p, l, e, room_1, s, m, #[Value.ref b], below, meth, c, (fun q => s.heap.size ≤ q), 600000, 7302249, lw_Z below #[Value.ref b] s) (f, EL, D, dC) 8 [some (.ref b), some (.ref (xad (f, EL, D, dC) 0)), none, none] [] st0 := by
      refine xr_iconst (v := 1) cx dL_law_8 (by decide) ?_
      refine xr_istore_2 cx dL_law_9 ?_
      refine xr_iconst (v := nI 0) cx dL_law_10 (by decide) ?_
      refine xr_istore_3 cx dL_law_11 ?_
      refine lw_loop (d := 0) (EL_gl rfl) cx lx hL (fun lv τ => ?_) 60 0 st0 rfl st0_inv
      intro H2 locs2 ls2 hP3 hS3 hl3
      refine va_forget hS3.2.2 ?_
      exact lw_ret hx hb hr hlocks dL_law_91
    exact hgo H locs ls hP hS hl
  exact key s.heap [] _ (fun k q h => by simp at h) ⟨fun i j p q h => by simp at h, fun k q h => by simp at h⟩ va_S.rf hlx
set_option maxHeartbeats 4000000 in
theorem lw_walk (l : Launch) (hflags : l.flags = flags0) (b : Addr) (xs : List Int32) : MetFree l x (headSpec (Jvm.Cond.code x code maxLocals ret :: tables_1) room_1) (lw_P b xs) (fun _ _ _ _ _ => True) lw_Q := by
  refine MetFree.of_bodyS (code := code) (maxLocals := maxLocals) (ret := ret) (by decide) ?_ ?_
  · intro args s m h hn
    obtain ⟨meth, c, h1, h2, h3, h4, h5, h6, -, -⟩ := Cond.code_spec hn (atoms_spec (ws := Jvm.Cond.code x code maxLocals ret :: tables_1) h _ List.mem_cons_self)
    exact ⟨meth, c, h1, h2, h3, h4, h5, h6⟩
  · intro p e s m args below meth c s₁ B hml0 hP _
    obtain ⟨rfl, hx, hbd, hgv⟩ := hP
    obtain ⟨scr, harrAt, hlist, hof, hsmall⟩ := hx
    obtain ⟨hcb, hkn, -, -⟩ := State.arrayAt?_spec harrAt
    have hown : s.vm.findClass R_law = some m.cls := findClass_of_methodNamed B.named
    have hts0 : ∀ c ∈ (Jvm.Cond.code x code maxLocals ret :: tables_1), c.before #[Value.ref b] s = true := atoms_spec (ws := Jvm.Cond.code x code maxLocals ret :: tables_1) B.pre
    have hts : ∀ w ∈ lw_tbl, w.before #[Value.ref b] s = true := k2_hts_sels lw_privs (fun w hw => hts0 w (List.mem_cons_of_mem _ hw)) lw_privs_ok
    have hml : c.maxLocals = 4 := B.maxLocals_eq (hts0 _ List.mem_cons_self)
    have X₀ : Stand p l e room_1 s m #[Value.ref b] below meth c s₁ [] 0 0 := Stand.of_body B
    have hh0 : s₁.heap = s.heap := by rw [B.state]; rfl
    have hsz : scr.slots.size = xs.length := by rw [← Array.length_toList, hlist, List.length_map]
    have hval : ∀ j : Nat, j < xs.length → scr.slots[j]? = some (.int (xs.getD j 0)) := fun j hj => by
      rw [← Array.getElem?_toList, hlist]
      simp [hj]
    have hbl : b < s.heap.size := (Array.getElem?_eq_some_iff.mp hcb).1
    have hX : va_X b xs.length (fun j => xs.getD j 0) s s.heap := ⟨scr, hcb, hof, hkn, hsz, hval⟩
    have K : W p l e room_1 s m #[Value.ref b] below meth c s₁.heap [] 0 0 (lw_Z below #[Value.ref b] s) (entryFrame m ([Value.ref b] : List Value).toArray 4) := by
      rw [hh0]
      exact whole_start l hflags hbd ⟨B.exec, B.bytes, B.returns, hml, hown, hts, hX, hbl, B.notSynchronized, hgv⟩
    obtain ⟨t, a1, o, b1, b2, b3⟩ := K s₁ rfl X₀
    exact ⟨t, o, a1, b1, b2, b3⟩
theorem lw_pre_spec {args : Array Value} {s : State} (h : (Jvm.Cond.and given_1 narrow_1).before args s = true) (hr : rest_1_c.before args s = true) : ∃ (b : Addr) (xs : List Int32), lw_P b xs args s := by
  have hs := flat_of_before _ h
  have hq := flat_of_before _ hr
  have hc : (Cond.count 1).before args s = true := hs _ (by decide +kernel)
  have harr : (Cond.arrayOf (.arg 0) .int).before args s = true := hs _ (by decide +kernel)
  have hle : (Cond.le (.length (.arg 0)) (.int 260)).before args s = true := hs _ (by decide +kernel)
  have hlen : (Cond.isInt (.length (.arg 0))).before args s = true := hq _ (by decide +kernel)
  have hall : (Cond.all (.arg 0) (.isInt (.elem (.arg 0) (.index 0)))).before args s = true := hq _ (by decide +kernel)
  obtain ⟨b, xs, hb, hx⟩ := State.ints_of_pre rfl harr hlen hall
  have hsm : xs.length < 2 ^ 31 := hx.choose_spec.2.2.2
  have hev : (Term.length (.arg 0)).eval args s none [] s = some (.int xs.length.toInt32) := hx.length_eval hb
  have hv := Cond.le_ints hev (show (Term.int 260).eval args s none [] s = some (.int 260) from rfl)
  have hd : xs.length.toInt32 ≤ 260 := by
    simpa [Cond.before, Cond.holds, hv] using hle
  have hN : xs.length ≤ 260 := (Int32.ofNat_le_ofNat hsm (by decide)).mp (show Int32.ofNat xs.length ≤ Int32.ofNat 260 from hd)
  exact ⟨b, xs, Cond.one_arg hc (show args[0]? = some (.ref b) from hb), hx, hN, h⟩
theorem lw_comes (l : Launch) (hflags : l.flags = flags0) : Comes l x (Jvm.Cond.code x code maxLocals ret :: tables_1) room_1 (fun tb e args s => Calls_1 tb e args s ∧ rest_1 tb e args s ∧ Pre_1 tb e args s)
    (fun _ _ args s o t => lw_Q args s o t) := by
  intro p e ha hc hk s m args below hf hfit hheap happ hpre
  obtain ⟨b, xs, hP⟩ := lw_pre_spec hpre.2.2 hpre.2.1
  obtain ⟨k, o, h1, h2, h3, hQ⟩ := lw_walk l hflags b xs p e ha hc hk s m args below hf ((Spec.applies_iff_loose hf).mp happ).1 hP trivial
  exact ⟨k, o, h1, h2, h3, hQ⟩
theorem lw_frame {s t : State} {o : Outcome} {args : Array Value} (h : Framed s o t [] 600000 7302249) :
    Framed s o t (fieldLocs frame_1_writes args s ++ arrayLocs frame_1_arrays args s ++ staticLocs frame_1_statics s) 600000 7302249 := h
theorem lw_limb (L : Cond) (hL : ∀ (args : Array Value) (s t : State), L.after args s (.returned (some (.int 1))) t = true) :
    ArmFor flags0 classFile x code maxLocals ret World_1 tables_1 room_1 Calls_1 rest_1 Pre_1
      (fun tb e a s o t => postC L tb e a s o t ∧ Framed s o t (fieldLocs frame_1_writes a s ++ arrayLocs frame_1_arrays a s ++ staticLocs frame_1_statics s) 600000 7302249) := by
  intro l hflags _ _ p e ha hc hk s m args below hf hfit hheap happ hpre
  obtain ⟨k, o, h1, h2, h3, rfl, hF⟩ := lw_comes l hflags p e ha hc hk s m args below hf hfit hheap happ hpre
  exact ⟨k, _, h1, h2, h3, hL args s _, lw_frame hF⟩
theorem i_vc : Claimed_1_1 ∧ Claimed_1_2 := ⟨lw_limb limb_1_1 (fun args s t => by simp [limb_1_1, Cond.after, Cond.holds, Cond.value]), lw_limb limb_1_2 (fun args s t => Cond.after_iff.mpr (by
  first | (rw [show limb_1_2 = Cond.eq .result (.int 1) from rfl, Cond.eq_ints (x := 1) (y := 1) rfl rfl]; simp; done) | (simp [limb_1_2, Cond.value, Term.eval]; done)))⟩
