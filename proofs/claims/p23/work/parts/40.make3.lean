theorem yfp_X1_11 (q : Nat) : yFp RX1 11 1 0 (.ref q) := ⟨RX1, TX1, 3, tyX1 0, rfl, cf_X1, by decide, x_good 212 (by decide +kernel) rfl, rfl, tyX1_ok 0 (by decide), rfl, rfl⟩
theorem yw_newq {d mc ms : Nat} {w : XO} {D : va_G} {dC : Nat → ClassId} {μ : XMt} {pc k n idx : Nat} {lv : List (Option Value)} {r : List Value} {world : va_W} {f : Nat → Nat} (cy : CY d mc ms w D dC μ) (hd : decode μ.2.1 pc = .ok (.anewarray idx, 3)) (hcl : Cond.classLink μ.1.cls idx "PulledPanels$Lecture" ∈ lw_good) (hk : k + 1 ≤ mc) (hn : n + 4 ≤ ms)
    (kk : ∀ q, YW w D (world ++ [(q, .inl (dC 2, yArr f []))]) (pc + 3) lv (.ref q :: r) (k + 1) (n + 4)) : YW w D world pc lv (.int 4 :: r) k n := by
  obtain ⟨p, l, e, R, s, m, args, below, meth, c, A, cells, slots, Z⟩ := w
  intro H locs ls hP hD hS hl
  obtain ⟨hx, hb, hml, hown, hts, -, hAO, hK, hA, ⟨-, -, h3, h4⟩, -, -⟩ := cy
  refine va_newq (N' := 4) hx hb hown (hts _ hcl) hAO hK hP hD hS hA (by decide) (by decide) (Nat.le_of_ble_eq_true rfl) (Nat.le_trans hk h3) (Nat.le_trans hn h4) hd (fun q cA H1 hK1 hP1 hD1 hS1 => ?_)
  obtain ⟨-, -, -, -, -, e1⟩ := (hK1.2 (yT dC).length (cA, .object "PulledPanels$Lecture") (y_app_r (i := 0) rfl)).2
  obtain ⟨-, -, -, -, -, e2⟩ := (hK.2 2 (dC 2, .object "PulledPanels$Lecture") rfl).2
  have e3 : cA = dC 2 := Option.some.inj (e1.symm.trans e2)
  subst e3
  exact kk q H1 locs ls hP1 hD1 hS1 hl
theorem yh_out {d mc ms h0 : Nat} {w : XO} {D : va_G} {dC : Nat → ClassId} {k n : Nat} {S : YS} {ts : List Nat} (cy : CY (d + 4) mc ms w D dC mX1_init) (kk : YH w D dC h0 42 [some (.ref h0), some (.int (nI 4))] ts S k n) : YH w D dC h0 14 [some (.ref h0), some (.int (nI 4))] ts S k n := by
  intro f qa
  refine yw_iload_1 cy dX1_init_14 ?_
  refine yw_aload_0 cy dX1_init_15 ?_
  refine yw_get cy dX1_init_16 fl_X1_11 rfl ?_
  have key : YW w D ((h0, .inr (1, [.ref qa, .int 0, .int 0])) :: (qa, .inl (dC 2, yArr f ts)) :: xW (f, S.1, D, dC) S.2) 20 [some (.ref h0), some (.int (nI 4))] [.int (nI 4), .int (nI 4)] k n :=
    yw_icmp_ge (tgt := 42) cy dX1_init_20 (by decide) (fun _ => kk f qa) (fun q => absurd (Int32.le_refl _) q)
  obtain ⟨p, l, e, R, s, m, args, below, meth, c, A, cells, slots, Z⟩ := w
  obtain ⟨hx, hb, hml, hown, hts2, -, -, hK, -, -, -, -⟩ := id cy
  intro H locs ls hP hD hS hl
  exact va_alen hx hb hK hP 1 2 rfl (ty := .object "PulledPanels$Lecture") rfl (v := nI 4) rfl dX1_init_19 (key H locs ls hP hD hS hl)
def yS1a : YS := yadd y0 yS2
def yS1b : YS := yadd yS1a yS2
def yS1c : YS := yadd yS1b yS2
def yS1d : YS := yadd yS1c yS2
def yTs : List Nat := ((([] ++ [y0.1.length]) ++ [yS1a.1.length]) ++ [yS1b.1.length]) ++ [yS1c.1.length]
def yS1 : YS := ymk 1 [some (.inr 0), some (.inl 0), some (.inl 0)] (.inr (.inr (yTs.map (1 + ·))) :: yS1d.1.map (shS 1), scons (fun _ => 0) yS1d.2)
set_option maxRecDepth 100000 in
theorem y_X1 {l : Launch} {D : va_G} {dC : Nat → ClassId} {d : Nat} : YM l D dC (d + 4) 85 880 1 mX1_init [.null, .int 0, .int 0] [] yS1.1 yS1.2 := by
  refine yr_entry (fun h0 => [some (.ref h0), none]) (by decide +kernel) (fun u hu => by cases hu) (by decide) (fun h0 => rfl) rfl (fun h0 w hw cy cz => ?_)
  have hi := YZ_init cz
  subst hw
  refine yw_aload_0 cy dX1_init_0 ?_
  refine yw_obj cy dX1_init_1 rfl (x_good 208 (by decide +kernel) rfl) (by decide) ?_
  refine yw_aload_0 cy dX1_init_4 ?_
  refine yw_iconst (v := 4) cy dX1_init_5 (by decide) ?_
  refine yw_newq (f := fun _ => 0) cy dX1_init_6 (x_good 209 (by decide +kernel) rfl) (by decide) (by decide) (fun q => ?_)
  refine yw_put cy hi dX1_init_9 (yfp_X1_11 q) (by decide) ?_
  refine yw_iconst (v := nI 0) cy dX1_init_12 (by decide) ?_
  refine yw_istore_1 cy dX1_init_13 ?_
  have key : YH w D dC h0 14 [some (.ref h0), some (.int (nI 0))] [] y0 (0 + 1) (0 + 4) := by
    refine yh_step 0 (by decide) rfl (by decide +kernel) (by decide +kernel) (by decide) (by decide) cy ?_
    refine yh_step (S := yS1a) 1 (by decide) (by decide +kernel) (by decide +kernel) (by decide +kernel) (by decide) (by decide) cy ?_
    refine yh_step (S := yS1b) 2 (by decide) (by decide +kernel) (by decide +kernel) (by decide +kernel) (by decide) (by decide) cy ?_
    refine yh_step (S := yS1c) 3 (by decide) (by decide +kernel) (by decide +kernel) (by decide +kernel) (by decide) (by decide) cy ?_
    refine yh_out cy ?_
    refine yh_end (S := yS1d) (ts := yTs) (by decide +kernel) ?_
    exact yg_ret cy cz rfl (by decide +kernel) (by decide) (by decide) dX1_init_42
  exact key (fun _ => 0) q
theorem yfp_X8_10 (q : Nat) : yFp RX8 10 8 0 (.ref q) := ⟨RX8, TX8, 6, tyX8 0, rfl, cf_X8, by decide, x_good 253 (by decide +kernel) rfl, rfl, tyX8_ok 0 (by decide), rfl, rfl⟩
theorem ynw_X8_7 : yNew RX8 7 2 4 [.null, .null, .null, .null] := ⟨RX2, TX2, tyX2, rfl, cf_X2, tyX2_ok, x_good 25 (by decide +kernel) rfl, x_good 26 (by decide +kernel) rfl, x_good 6 (by decide +kernel) rfl, fun j hj => by rcases (show j = 0 ∨ j = 1 ∨ j = 2 ∨ j = 3 by omega) with rfl | rfl | rfl | rfl <;> rfl⟩
theorem yif_X8_9 : yIf RX8 mX2_init 9 0 := ⟨rfl, x_good 28 (by decide +kernel) rfl, x_good 6 (by decide +kernel) rfl, x_good 29 (by decide +kernel) rfl, rfl, ⟨by decide, by decide⟩, by decide +kernel, by decide, Or.inr ⟨_, nl_X8_9⟩⟩
theorem yfp_X8_16 (q : Nat) : yFp RX8 16 8 1 (.ref q) := ⟨RX8, TX8, 6, tyX8 1, rfl, cf_X8, by decide, x_good 254 (by decide +kernel) rfl, rfl, tyX8_ok 1 (by decide), rfl, rfl⟩
theorem yfp_X8_19 (q : Nat) : yFp RX8 19 8 2 (.ref q) := ⟨RX8, TX8, 6, tyX8 2, rfl, cf_X8, by decide, x_good 255 (by decide +kernel) rfl, rfl, tyX8_ok 2 (by decide), rfl, rfl⟩
theorem yfp_X8_25 (q : Nat) : yFp RX8 25 8 3 (.ref q) := ⟨RX8, TX8, 6, tyX8 3, rfl, cf_X8, by decide, x_good 256 (by decide +kernel) rfl, rfl, tyX8_ok 3 (by decide), rfl, rfl⟩
theorem ynw_X8_22 : yNew RX8 22 1 3 [.null, .int 0, .int 0] := ⟨RX1, TX1, tyX1, rfl, cf_X1, tyX1_ok, x_good 203 (by decide +kernel) rfl, x_good 204 (by decide +kernel) rfl, x_good 13 (by decide +kernel) rfl, fun j hj => by rcases (show j = 0 ∨ j = 1 ∨ j = 2 by omega) with rfl | rfl | rfl <;> rfl⟩
theorem yif_X8_24 : yIf RX8 mX1_init 24 0 := ⟨rfl, x_good 206 (by decide +kernel) rfl, x_good 13 (by decide +kernel) rfl, x_good 207 (by decide +kernel) rfl, rfl, ⟨by decide, by decide⟩, by decide +kernel, by decide, Or.inl ml_X8_24⟩
theorem yfp_X8_32 (q : Nat) : yFp RX8 32 8 4 (.ref q) := ⟨RX8, TX8, 6, tyX8 4, rfl, cf_X8, by decide, x_good 257 (by decide +kernel) rfl, rfl, tyX8_ok 4 (by decide), rfl, rfl⟩
theorem ynw_X8_29 : yNew RX8 29 4 8 [.null, .null, .int 0, .int 0, .null, .int 0, .int 0, .int 0] := ⟨RX4, TX4, tyX4, rfl, cf_X4, tyX4_ok, x_good 223 (by decide +kernel) rfl, x_good 224 (by decide +kernel) rfl, x_good 14 (by decide +kernel) rfl, fun j hj => by rcases (show j = 0 ∨ j = 1 ∨ j = 2 ∨ j = 3 ∨ j = 4 ∨ j = 5 ∨ j = 6 ∨ j = 7 by omega) with rfl | rfl | rfl | rfl | rfl | rfl | rfl | rfl <;> rfl⟩
theorem yif_X8_31 : yIf RX8 mX4_init 31 0 := ⟨rfl, x_good 226 (by decide +kernel) rfl, x_good 14 (by decide +kernel) rfl, x_good 227 (by decide +kernel) rfl, rfl, ⟨by decide, by decide⟩, by decide +kernel, by decide, Or.inr ⟨_, nl_X8_31⟩⟩
theorem yfp_X8_36 : yFp RX8 36 8 5 (.int 0) := ⟨RX8, TX8, 6, tyX8 5, rfl, cf_X8, by decide, x_good 258 (by decide +kernel) rfl, rfl, tyX8_ok 5 (by decide), rfl, rfl⟩
def yS8 : YS := ymk 8 [some (.inr 0), some (.inr 21), some (.inr 42), some (.inr 63), some (.inr 149), some (.inl 0)] (yadd (yadd (yadd (yadd (yadd y0 yS2) yS2) yS2) yS1) yS4)
set_option maxRecDepth 100000 in
theorem y_X8 {l : Launch} {D : va_G} {dC : Nat → ClassId} {d : Nat} : YM l D dC (d + 5) 155 1670 8 mX8_init [.null, .null, .null, .null, .null, .int 0] [] yS8.1 yS8.2 := by
  refine yr_entry (fun h0 => [some (.ref h0)]) (by decide +kernel) (fun u hu => by cases hu) (by decide) (fun h0 => rfl) rfl (fun h0 w hw cy cz => ?_)
  have hi := YZ_init cz
  subst hw
  refine yw_aload_0 cy dX8_init_0 ?_
  refine yw_obj cy dX8_init_1 rfl (x_good 22 (by decide +kernel) rfl) (by decide) ?_
  refine yg_start (dC := dC) (cs := [none, none, none, none, none, some (.inl 0)]) rfl (by decide +kernel) ?_
  refine yg_field (T := yS2) (cs2 := [some (.inr 0), none, none, none, none, some (.inl 0)]) (len := 0) cy hi y_X2 dX8_init_4 dX8_init_5 dX8_init_8 (Or.inl ⟨rfl, rfl⟩) dX8_init_9 dX8_init_12 ynw_X8_7 yif_X8_9 (fun q => yfp_X8_10 q) rfl (by decide) (by decide) (by decide) (by decide +kernel) (by decide +kernel) (by decide +kernel) ?_
  refine yg_field (T := yS2) (cs2 := [some (.inr 0), some (.inr 21), none, none, none, some (.inl 0)]) (len := 0) cy hi y_X2 dX8_init_15 dX8_init_16 dX8_init_19 (Or.inl ⟨rfl, rfl⟩) dX8_init_20 dX8_init_23 ynw_X8_7 yif_X8_9 (fun q => yfp_X8_16 q) rfl (by decide) (by decide) (by decide) (by decide +kernel) (by decide +kernel) (by decide +kernel) ?_
  refine yg_field (T := yS2) (cs2 := [some (.inr 0), some (.inr 21), some (.inr 42), none, none, some (.inl 0)]) (len := 0) cy hi y_X2 dX8_init_26 dX8_init_27 dX8_init_30 (Or.inl ⟨rfl, rfl⟩) dX8_init_31 dX8_init_34 ynw_X8_7 yif_X8_9 (fun q => yfp_X8_19 q) rfl (by decide) (by decide) (by decide) (by decide +kernel) (by decide +kernel) (by decide +kernel) ?_
  refine yg_field (T := yS1) (cs2 := [some (.inr 0), some (.inr 21), some (.inr 42), some (.inr 63), none, some (.inl 0)]) (len := 0) cy hi y_X1 dX8_init_37 dX8_init_38 dX8_init_41 (Or.inl ⟨rfl, rfl⟩) dX8_init_42 dX8_init_45 ynw_X8_22 yif_X8_24 (fun q => yfp_X8_25 q) rfl (by decide) (by decide) (by decide) (by decide +kernel) (by decide +kernel) (by decide +kernel) ?_
  refine yg_field (T := yS4) (cs2 := [some (.inr 0), some (.inr 21), some (.inr 42), some (.inr 63), some (.inr 149), some (.inl 0)]) (len := 0) cy hi y_X4 dX8_init_48 dX8_init_49 dX8_init_52 (Or.inl ⟨rfl, rfl⟩) dX8_init_53 dX8_init_56 ynw_X8_29 yif_X8_31 (fun q => yfp_X8_32 q) rfl (by decide) (by decide) (by decide) (by decide +kernel) (by decide +kernel) (by decide +kernel) ?_
  refine yg_int (x := 0) (cs2 := [some (.inr 0), some (.inr 21), some (.inr 42), some (.inr 63), some (.inr 149), some (.inl 0)]) (len := 1) cy hi dX8_init_59 (Or.inr ⟨0, dX8_init_60, by decide, rfl⟩) dX8_init_61 yfp_X8_36 (by decide) (by decide +kernel) ?_
  exact yg_ret cy cz rfl (by decide +kernel) (by decide) (by decide) dX8_init_64
