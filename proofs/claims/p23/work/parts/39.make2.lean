theorem yfp_X0_14 (q : Nat) : yFp RX0 14 0 0 (.ref q) := ⟨RX0, TX0, 7, tyX0 0, rfl, cf_X0, by decide, x_good 84 (by decide +kernel) rfl, rfl, tyX0_ok 0 (by decide), rfl, rfl⟩
theorem ynw_X0_9 : yNew RX0 9 5 1 [.null] := ⟨RX5, TX5, tyX5, rfl, cf_X5, tyX5_ok, x_good 78 (by decide +kernel) rfl, x_good 38 (by decide +kernel) rfl, x_good 8 (by decide +kernel) rfl, fun j hj => by rcases (show j = 0 by omega) with rfl <;> rfl⟩
theorem yif_X0_11 : yIf RX0 mX5_init 11 1 := ⟨rfl, x_good 40 (by decide +kernel) rfl, x_good 8 (by decide +kernel) rfl, x_good 41 (by decide +kernel) rfl, rfl, ⟨by decide, by decide⟩, by decide +kernel, by decide, Or.inl ml_X0_11⟩
theorem yfp_X0_20 (q : Nat) : yFp RX0 20 0 1 (.ref q) := ⟨RX0, TX0, 7, tyX0 1, rfl, cf_X0, by decide, x_good 87 (by decide +kernel) rfl, rfl, tyX0_ok 1 (by decide), rfl, rfl⟩
theorem yfp_X0_23 (q : Nat) : yFp RX0 23 0 2 (.ref q) := ⟨RX0, TX0, 7, tyX0 2, rfl, cf_X0, by decide, x_good 89 (by decide +kernel) rfl, rfl, tyX0_ok 2 (by decide), rfl, rfl⟩
theorem yfp_X0_26 : yFp RX0 26 0 5 (.int 12) := ⟨RX0, TX0, 7, tyX0 5, rfl, cf_X0, by decide, x_good 96 (by decide +kernel) rfl, rfl, tyX0_ok 5 (by decide), rfl, rfl⟩
def yS0 : YS := ((ymk 0 [some (.inr 0), some (.inr 2), some (.inr 4), some (.inl 0), some (.inl 0), some (.inl 12), some (.inl 0)] (yadd (yadd (yadd y0 (yS5 6)) (yS5 6)) (yS5 3))).1, su (ymk 0 [some (.inr 0), some (.inr 2), some (.inr 4), some (.inl 0), some (.inl 0), some (.inl 12), some (.inl 0)] (yadd (yadd (yadd y0 (yS5 6)) (yS5 6)) (yS5 3))).2 6 (fun j => if j = 1 then (2 : Int32) else if j = 2 then 4 else 0))
set_option maxRecDepth 100000 in
theorem y_X0 {l : Launch} {D : va_G} {dC : Nat → ClassId} {d : Nat} : YM l D dC (d + 2) 6 18 0 mX0_init [.null, .null, .null, .int 0, .int 0, .int 0, .int 0] [] yS0.1 yS0.2 := by
  refine yr_entry (fun h0 => [some (.ref h0), none]) (by decide +kernel) (fun u hu => by cases hu) (by decide) (fun h0 => rfl) rfl (fun h0 w hw cy cz => ?_)
  have hi := YZ_init cz
  subst hw
  refine yw_aload_0 cy dX0_init_0 ?_
  refine yw_obj cy dX0_init_1 rfl (x_good 77 (by decide +kernel) rfl) (by decide) ?_
  refine yg_start (dC := dC) (cs := [none, none, none, some (.inl 0), some (.inl 0), some (.inl 0), some (.inl 0)]) rfl (by decide +kernel) ?_
  refine yg_field (T := (yS5 6)) (cs2 := [some (.inr 0), none, none, some (.inl 0), some (.inl 0), some (.inl 0), some (.inl 0)]) (len := 2) cy hi (y_X5 6 (by decide) (by decide)) dX0_init_4 dX0_init_5 dX0_init_8 (Or.inr (Or.inl ⟨6, 6, rfl, dX0_init_9, by decide, rfl⟩)) dX0_init_11 dX0_init_14 ynw_X0_9 yif_X0_11 (fun q => yfp_X0_14 q) rfl (by decide) (by decide) (by decide) (by decide +kernel) (by decide +kernel) (by decide +kernel) ?_
  refine yg_field (T := (yS5 6)) (cs2 := [some (.inr 0), some (.inr 2), none, some (.inl 0), some (.inl 0), some (.inl 0), some (.inl 0)]) (len := 2) cy hi (y_X5 6 (by decide) (by decide)) dX0_init_17 dX0_init_18 dX0_init_21 (Or.inr (Or.inl ⟨6, 6, rfl, dX0_init_22, by decide, rfl⟩)) dX0_init_24 dX0_init_27 ynw_X0_9 yif_X0_11 (fun q => yfp_X0_20 q) rfl (by decide) (by decide) (by decide) (by decide +kernel) (by decide +kernel) (by decide +kernel) ?_
  refine yg_field (T := (yS5 3)) (cs2 := [some (.inr 0), some (.inr 2), some (.inr 4), some (.inl 0), some (.inl 0), some (.inl 0), some (.inl 0)]) (len := 1) cy hi (y_X5 3 (by decide) (by decide)) dX0_init_30 dX0_init_31 dX0_init_34 (Or.inr (Or.inr ⟨3, 3, rfl, dX0_init_35, by decide, rfl⟩)) dX0_init_36 dX0_init_39 ynw_X0_9 yif_X0_11 (fun q => yfp_X0_23 q) rfl (by decide) (by decide) (by decide) (by decide +kernel) (by decide +kernel) (by decide +kernel) ?_
  refine yg_int (x := 12) (cs2 := [some (.inr 0), some (.inr 2), some (.inr 4), some (.inl 0), some (.inl 0), some (.inl 12), some (.inl 0)]) (len := 2) cy hi dX0_init_42 (Or.inl ⟨12, dX0_init_43, by decide, rfl⟩) dX0_init_45 yfp_X0_26 (by decide) (by decide +kernel) ?_
  refine yg_toX (lvf := fun h => [some (.ref h), none]) cy cz rfl (by decide +kernel) (by decide) (by decide) (fun E w2 hE hw2 cx hr => ?_)
  have b0 : E.2.1[0]? = some (.inl (0, [some 1, some 3, some 5, none, none, none, none])) := by rw [hE]; rfl
  have b5 : E.2.1[5]? = some (.inl (5, [some 6])) := by rw [hE]; rfl
  have b6 : E.2.1[6]? = some (.inr (.inl (0, 3))) := by rw [hE]; rfl
  refine xr_iconst (v := 0) cx dX0_init_48 (by decide) ?_
  refine xr_istore_1 cx dX0_init_49 ?_
  refine xr_iload_1 cx dX0_init_50 ?_
  refine xr_iconst (v := 3) cx dX0_init_51 (by decide) ?_
  refine xr_icmp_ge (tgt := 72) cx dX0_init_52 (by decide) (fun cq52 => ?_) (fun cq52 => ?_)
  · exact absurd cq52 (by decide)
  · refine xr_aload_0 cx dX0_init_55 ?_
    refine xr_getR cx dX0_init_56 fl_X0_23 b0 rfl ?_
    refine xr_iload_1 cx dX0_init_59 ?_
    refine xr_iconst (v := 2) cx dX0_init_60 (by decide) ?_
    refine xr_iload_1 cx dX0_init_61 ?_
    refine xr_imul cx dX0_init_62 ?_
    refine xr_V2v (ν := mX5_put) cx dX0_init_63 rfl ml_X0_30 vf_X5_put b5 (Nat.le_of_ble_eq_true rfl) (m_X5_put b5 b6 (by decide) ?_)
    refine xr_iinc_1 (y := 1) cx dX0_init_66 (by decide) ?_
    refine xr_goto (tgt := 50) cx dX0_init_69 (by decide) ?_
    refine xr_iload_1 cx dX0_init_50 ?_
    refine xr_iconst (v := 3) cx dX0_init_51 (by decide) ?_
    refine xr_icmp_ge (tgt := 72) cx dX0_init_52 (by decide) (fun cq52 => ?_) (fun cq52 => ?_)
    · exact absurd cq52 (by decide)
    · refine xr_aload_0 cx dX0_init_55 ?_
      refine xr_getR cx dX0_init_56 fl_X0_23 b0 rfl ?_
      refine xr_iload_1 cx dX0_init_59 ?_
      refine xr_iconst (v := 2) cx dX0_init_60 (by decide) ?_
      refine xr_iload_1 cx dX0_init_61 ?_
      refine xr_imul cx dX0_init_62 ?_
      refine xr_V2v (ν := mX5_put) cx dX0_init_63 rfl ml_X0_30 vf_X5_put b5 (Nat.le_of_ble_eq_true rfl) (m_X5_put b5 b6 (by decide) ?_)
      refine xr_iinc_1 (y := 1) cx dX0_init_66 (by decide) ?_
      refine xr_goto (tgt := 50) cx dX0_init_69 (by decide) ?_
      refine xr_iload_1 cx dX0_init_50 ?_
      refine xr_iconst (v := 3) cx dX0_init_51 (by decide) ?_
      refine xr_icmp_ge (tgt := 72) cx dX0_init_52 (by decide) (fun cq52 => ?_) (fun cq52 => ?_)
      · exact absurd cq52 (by decide)
      · refine xr_aload_0 cx dX0_init_55 ?_
        refine xr_getR cx dX0_init_56 fl_X0_23 b0 rfl ?_
        refine xr_iload_1 cx dX0_init_59 ?_
        refine xr_iconst (v := 2) cx dX0_init_60 (by decide) ?_
        refine xr_iload_1 cx dX0_init_61 ?_
        refine xr_imul cx dX0_init_62 ?_
        refine xr_V2v (ν := mX5_put) cx dX0_init_63 rfl ml_X0_30 vf_X5_put b5 (Nat.le_of_ble_eq_true rfl) (m_X5_put b5 b6 (by decide) ?_)
        refine xr_iinc_1 (y := 1) cx dX0_init_66 (by decide) ?_
        refine xr_goto (tgt := 50) cx dX0_init_69 (by decide) ?_
        refine xr_iload_1 cx dX0_init_50 ?_
        refine xr_iconst (v := 3) cx dX0_init_51 (by decide) ?_
        refine xr_icmp_ge (tgt := 72) cx dX0_init_52 (by decide) (fun cq52 => ?_) (fun cq52 => ?_)
        · refine xr_row (k := 6) (fun j => if j = 1 then (2 : Int32) else if j = 2 then 4 else 0) b6 (fun j hj => ?_) ?_
          · rcases (show j = 0 ∨ j = 1 ∨ j = 2 by omega) with rfl | rfl | rfl <;> first | rfl | decide +kernel
          · rw [su_su, su_su, su_su]
            exact hr 72 _ dX0_init_72
        · exact absurd (by decide) cq52
theorem yfp_X2_12 (q : Nat) : yFp RX2 12 2 0 (.ref q) := ⟨RX2, TX2, 4, tyX2 0, rfl, cf_X2, by decide, x_good 186 (by decide +kernel) rfl, rfl, tyX2_ok 0 (by decide), rfl, rfl⟩
theorem ynw_X2_9 : yNew RX2 9 6 4 [.null, .null, .int 0, .int 0] := ⟨RX6, TX6, tyX6, rfl, cf_X6, tyX6_ok, x_good 31 (by decide +kernel) rfl, x_good 32 (by decide +kernel) rfl, x_good 7 (by decide +kernel) rfl, fun j hj => by rcases (show j = 0 ∨ j = 1 ∨ j = 2 ∨ j = 3 by omega) with rfl | rfl | rfl | rfl <;> rfl⟩
theorem yif_X2_11 : yIf RX2 mX6_init 11 0 := ⟨rfl, x_good 34 (by decide +kernel) rfl, x_good 7 (by decide +kernel) rfl, x_good 35 (by decide +kernel) rfl, rfl, ⟨by decide, by decide⟩, by decide +kernel, by decide, Or.inr ⟨_, nl_X2_11⟩⟩
theorem yfp_X2_21 (q : Nat) : yFp RX2 21 2 1 (.ref q) := ⟨RX2, TX2, 4, tyX2 1, rfl, cf_X2, by decide, x_good 188 (by decide +kernel) rfl, rfl, tyX2_ok 1 (by decide), rfl, rfl⟩
theorem ynw_X2_18 : yNew RX2 18 0 7 [.null, .null, .null, .int 0, .int 0, .int 0, .int 0] := ⟨RX0, TX0, tyX0, rfl, cf_X0, tyX0_ok, x_good 72 (by decide +kernel) rfl, x_good 73 (by decide +kernel) rfl, x_good 10 (by decide +kernel) rfl, fun j hj => by rcases (show j = 0 ∨ j = 1 ∨ j = 2 ∨ j = 3 ∨ j = 4 ∨ j = 5 ∨ j = 6 by omega) with rfl | rfl | rfl | rfl | rfl | rfl | rfl <;> rfl⟩
theorem yif_X2_20 : yIf RX2 mX0_init 20 0 := ⟨rfl, x_good 75 (by decide +kernel) rfl, x_good 10 (by decide +kernel) rfl, x_good 76 (by decide +kernel) rfl, rfl, ⟨by decide, by decide⟩, by decide +kernel, by decide, Or.inl ml_X2_20⟩
theorem yfp_X2_28 (q : Nat) : yFp RX2 28 2 2 (.ref q) := ⟨RX2, TX2, 4, tyX2 2, rfl, cf_X2, by decide, x_good 190 (by decide +kernel) rfl, rfl, tyX2_ok 2 (by decide), rfl, rfl⟩
theorem ynw_X2_25 : yNew RX2 25 3 4 [.null, .null, .int 0, .int 0] := ⟨RX3, TX3, tyX3, rfl, cf_X3, tyX3_ok, x_good 116 (by decide +kernel) rfl, x_good 117 (by decide +kernel) rfl, x_good 11 (by decide +kernel) rfl, fun j hj => by rcases (show j = 0 ∨ j = 1 ∨ j = 2 ∨ j = 3 by omega) with rfl | rfl | rfl | rfl <;> rfl⟩
theorem yif_X2_27 : yIf RX2 mX3_init 27 0 := ⟨rfl, x_good 119 (by decide +kernel) rfl, x_good 11 (by decide +kernel) rfl, x_good 120 (by decide +kernel) rfl, rfl, ⟨by decide, by decide⟩, by decide +kernel, by decide, Or.inr ⟨_, nl_X2_27⟩⟩
theorem yfp_X2_35 (q : Nat) : yFp RX2 35 2 3 (.ref q) := ⟨RX2, TX2, 4, tyX2 3, rfl, cf_X2, by decide, x_good 192 (by decide +kernel) rfl, rfl, tyX2_ok 3 (by decide), rfl, rfl⟩
theorem ynw_X2_32 : yNew RX2 32 7 7 [.null, .int 0, .int 0, .int 0, .int 0, .int 0, .int 0] := ⟨RX7, TX7, tyX7, rfl, cf_X7, tyX7_ok, x_good 142 (by decide +kernel) rfl, x_good 143 (by decide +kernel) rfl, x_good 12 (by decide +kernel) rfl, fun j hj => by rcases (show j = 0 ∨ j = 1 ∨ j = 2 ∨ j = 3 ∨ j = 4 ∨ j = 5 ∨ j = 6 by omega) with rfl | rfl | rfl | rfl | rfl | rfl | rfl <;> rfl⟩
theorem yif_X2_34 : yIf RX2 mX7_init 34 0 := ⟨rfl, x_good 145 (by decide +kernel) rfl, x_good 12 (by decide +kernel) rfl, x_good 146 (by decide +kernel) rfl, rfl, ⟨by decide, by decide⟩, by decide +kernel, by decide, Or.inr ⟨_, nl_X2_34⟩⟩
def yS2 : YS := ymk 2 [some (.inr 0), some (.inr 5), some (.inr 12), some (.inr 17)] (yadd (yadd (yadd (yadd y0 yS6) yS0) yS3) yS7)
set_option maxRecDepth 100000 in
theorem y_X2 {l : Launch} {D : va_G} {dC : Nat → ClassId} {d : Nat} : YM l D dC (d + 3) 20 215 2 mX2_init [.null, .null, .null, .null] [] yS2.1 yS2.2 := by
  refine yr_entry (fun h0 => [some (.ref h0)]) (by decide +kernel) (fun u hu => by cases hu) (by decide) (fun h0 => rfl) rfl (fun h0 w hw cy cz => ?_)
  have hi := YZ_init cz
  subst hw
  refine yw_aload_0 cy dX2_init_0 ?_
  refine yw_obj cy dX2_init_1 rfl (x_good 30 (by decide +kernel) rfl) (by decide) ?_
  refine yg_start (dC := dC) (cs := [none, none, none, none]) rfl (by decide +kernel) ?_
  refine yg_field (T := yS6) (cs2 := [some (.inr 0), none, none, none]) (len := 0) cy hi y_X6 dX2_init_4 dX2_init_5 dX2_init_8 (Or.inl ⟨rfl, rfl⟩) dX2_init_9 dX2_init_12 ynw_X2_9 yif_X2_11 (fun q => yfp_X2_12 q) rfl (by decide) (by decide) (by decide) (by decide +kernel) (by decide +kernel) (by decide +kernel) ?_
  refine yg_field (T := yS0) (cs2 := [some (.inr 0), some (.inr 5), none, none]) (len := 0) cy hi y_X0 dX2_init_15 dX2_init_16 dX2_init_19 (Or.inl ⟨rfl, rfl⟩) dX2_init_20 dX2_init_23 ynw_X2_18 yif_X2_20 (fun q => yfp_X2_21 q) rfl (by decide) (by decide) (by decide) (by decide +kernel) (by decide +kernel) (by decide +kernel) ?_
  refine yg_field (T := yS3) (cs2 := [some (.inr 0), some (.inr 5), some (.inr 12), none]) (len := 0) cy hi y_X3 dX2_init_26 dX2_init_27 dX2_init_30 (Or.inl ⟨rfl, rfl⟩) dX2_init_31 dX2_init_34 ynw_X2_25 yif_X2_27 (fun q => yfp_X2_28 q) rfl (by decide) (by decide) (by decide) (by decide +kernel) (by decide +kernel) (by decide +kernel) ?_
  refine yg_field (T := yS7) (cs2 := [some (.inr 0), some (.inr 5), some (.inr 12), some (.inr 17)]) (len := 0) cy hi y_X7 dX2_init_37 dX2_init_38 dX2_init_41 (Or.inl ⟨rfl, rfl⟩) dX2_init_42 dX2_init_45 ynw_X2_32 yif_X2_34 (fun q => yfp_X2_35 q) rfl (by decide) (by decide) (by decide) (by decide +kernel) (by decide +kernel) (by decide +kernel) ?_
  exact yg_ret cy cz rfl (by decide +kernel) (by decide) (by decide) dX2_init_48
section YGH
variable {d mc ms h0 : Nat} {w : XO} {D : va_G} {dC : Nat → ClassId} {μ : XMt} {pc k n : Nat} {lv lr : List (Option Value)} {r : List Value} {S : YS} {rest : va_W}
theorem yw_get {ci j idx : Nat} {fs : List Value} {v : Value} (cy : CY d mc ms w D dC μ) (hd : decode μ.2.1 pc = .ok (.getfield idx, 3)) (hf : xFl μ.1.cls idx ci j) (hv : fs[j]? = some v) (kk : YW w D ((h0, .inr (ci, fs)) :: rest) (pc + 3) lv (v :: r) k n) : YW w D ((h0, .inr (ci, fs)) :: rest) pc lv (.ref h0 :: r) k n := by
  obtain ⟨p, l, e, R, s, m, args, below, meth, c, A, cells, slots, Z⟩ := w
  obtain ⟨C, T, N, hC, hcf, hjN, hl0⟩ := hf
  obtain ⟨hx, hb, hml, hown, hts, -, -, hK, -, -, -, -⟩ := cy
  intro H locs ls hP hD hS hl
  exact va_get (Ts := lw_good) hx hb hts hcf.1 hown hK hP 0 rfl hC j hjN (hts _ hl0) (fun _ h => h) hv hd (kk H locs ls hP hD hS hl)
def yArr (f : Nat → Nat) (ts : List Nat) : vp_A := (4, .inr (.inr (.inr (.inr (fun j => (ts[j]?).map f)))))
def YH (w : XO) (D : va_G) (dC : Nat → ClassId) (h0 pc : Nat) (lv : List (Option Value)) (ts : List Nat) (S : YS) (k n : Nat) : Prop := ∀ (f : Nat → Nat) (qa : Nat), YW w D ((h0, .inr (1, [.ref qa, .int 0, .int 0])) :: (qa, .inl (dC 2, yArr f ts)) :: xW (f, S.1, D, dC) S.2) pc lv [] k n
theorem yh_end {ts : List Nat} (h4 : ts.length = 4) (kk : YG w D dC h0 1 pc lv [some (.inr 0), some (.inl 0), some (.inl 0)] (.inr (.inr (ts.map (1 + ·))) :: S.1.map (shS 1), scons (fun _ => 0) S.2) k n) : YH w D dC h0 pc lv ts S k n := by
  intro f qa
  have h := kk (fcons qa f)
  have e : xW (fcons qa f, .inr (.inr (ts.map (1 + ·))) :: S.1.map (shS 1), D, dC) (scons (fun _ => 0) S.2) = (qa, .inl (dC 2, yArr f ts)) :: xW (f, S.1, D, dC) S.2 := by
    apply List.ext_getElem?
    intro i
    cases i with
    | zero =>
      rw [xW_get (E := (fcons qa f, .inr (.inr (ts.map (1 + ·))) :: S.1.map (shS 1), D, dC)) (s := .inr (.inr (ts.map (1 + ·)))) rfl]
      show some (qa, Sum.inl (dC 2, (ts.map (1 + ·)).length, Sum.inr (Sum.inr (Sum.inr (Sum.inr _))))) = some (qa, Sum.inl (dC 2, 4, Sum.inr (Sum.inr (Sum.inr (Sum.inr _)))))
      rw [List.length_map, h4]
      congr 9
      funext j
      rw [List.getElem?_map]
      cases ts[j]? with
      | none => rfl
      | some t =>
        show some (fcons qa f (1 + t)) = some (f t)
        rw [Nat.add_comm]
        rfl
    | succ i =>
      rw [List.getElem?_cons_succ]
      cases hs : S.1[i]? with
      | none =>
        have h1 : S.1.length ≤ i := List.getElem?_eq_none_iff.mp hs
        rw [List.getElem?_eq_none_iff.mpr (by rw [xW_len]; simp; omega), List.getElem?_eq_none_iff.mpr (by rw [xW_len]; exact h1)]
      | some s =>
        rw [xW_get (E := (f, S.1, D, dC)) hs, xW_get (E := (fcons qa f, .inr (.inr (ts.map (1 + ·))) :: S.1.map (shS 1), D, dC)) (s := shS 1 s) (by show (_ :: S.1.map (shS 1))[i + 1]? = _; rw [List.getElem?_cons_succ, List.getElem?_map, hs]; rfl)]
        show some (f i, _) = some (f i, _)
        rw [xcell_sh (f := fcons qa f) (g := f) (S2 := S.1) (fun k => by rw [Nat.add_comm]; rfl)]
        rfl
  rw [e] at h
  exact h
end YGH
theorem ynw_X1_9 : yNew RX1 9 2 4 [.null, .null, .null, .null] := ⟨RX2, TX2, tyX2, rfl, cf_X2, tyX2_ok, x_good 209 (by decide +kernel) rfl, x_good 26 (by decide +kernel) rfl, x_good 6 (by decide +kernel) rfl, fun j hj => by rcases (show j = 0 ∨ j = 1 ∨ j = 2 ∨ j = 3 by omega) with rfl | rfl | rfl | rfl <;> rfl⟩
theorem yif_X1_17 : yIf RX1 mX2_init 17 0 := ⟨rfl, x_good 28 (by decide +kernel) rfl, x_good 6 (by decide +kernel) rfl, x_good 29 (by decide +kernel) rfl, rfl, ⟨by decide, by decide⟩, by decide +kernel, by decide, Or.inr ⟨_, nl_X1_17⟩⟩
theorem yh_step {d mc ms h0 : Nat} {w : XO} {D : va_G} {dC : Nat → ClassId} {k n : Nat} {S : YS} {ts : List Nat} (i : Nat) (hi4 : i < 4) (hts : ts.length = i) (hok : ts.all (fun t => decide (t < S.1.length)) = true) (ok : S.1.all (okS S.1.length) = true) (hk : k + 1 + 20 ≤ mc) (hn : n + 4 + 215 ≤ ms) (cy : CY (d + 4) mc ms w D dC mX1_init)
    (kk : YH w D dC h0 14 [some (.ref h0), some (.int (nI (i + 1)))] (ts ++ [S.1.length]) (yadd S yS2) (k + 1 + 20) (n + 4 + 215)) : YH w D dC h0 14 [some (.ref h0), some (.int (nI i))] ts S k n := by
  intro f qa
  refine yw_iload_1 cy dX1_init_14 ?_
  refine yw_aload_0 cy dX1_init_15 ?_
  refine yw_get cy dX1_init_16 fl_X1_11 rfl ?_
  have key : YW w D ((h0, .inr (1, [.ref qa, .int 0, .int 0])) :: (qa, .inl (dC 2, yArr f ts)) :: xW (f, S.1, D, dC) S.2) 20 [some (.ref h0), some (.int (nI i))] [.int (nI 4), .int (nI i)] k n := by
    refine yw_icmp_ge (tgt := 42) cy dX1_init_20 (by decide) (fun q => absurd q (nI_ge hi4 (by decide))) (fun _ => ?_)
    refine yw_aload_0 cy dX1_init_23 ?_
    refine yw_get cy dX1_init_24 fl_X1_11 rfl ?_
    refine yw_iload_1 cy dX1_init_27 ?_
    refine yw_newinit (ν := mX2_init) (as := []) (len := 0) cy (y_X2 (d := d)) dX1_init_28 dX1_init_31 (Or.inl ⟨rfl, rfl⟩) dX1_init_32 ynw_X1_9 yif_X1_17 rfl (by show 1 + (1 + 0) + 1 ≤ 8; decide) hk hn (fun g => ?_)
    obtain ⟨p, l, e, R, s, m, args, below, meth, c, A, cells, slots, Z⟩ := w
    obtain ⟨hx, hb, hml, hown, hts2, -, -, hK, -, -, -, -⟩ := id cy
    intro H locs ls hP hD hS hl
    have hv : ((h0, .inr (1, [.ref qa, .int 0, .int 0])) :: (qa, .inl (dC 2, yArr f ts)) :: xW (f, S.1, D, dC) S.2 ++ xW (g, yS2.1, D, dC) yS2.2 : va_W)[((h0, .inr (1, [.ref qa, .int 0, .int 0])) :: (qa, .inl (dC 2, yArr f ts)) :: xW (f, S.1, D, dC) S.2 : va_W).length + 0]? = some (g 0, xcell (g, yS2.1, D, dC) (yS2.2 0) (.inl (2, [some 1, some 6, some 13, some 18]))) := y_app_r (xW_get (E := (g, yS2.1, D, dC)) (k := 0) (show yS2.1[0]? = some (.inl (2, [some 1, some 6, some 13, some 18])) by decide +kernel))
    refine va_astq hx hb hK hP hD hS 1 2 _ 2 (r := (RX2, TX2, 4)) (n := 4) (f := fun j => (ts[j]?).map f) rfl rfl hv rfl (vp_in_nI hi4 (by decide)) dX1_init_35 (fun H1 locs1 hP1 hD1 hS1 => ?_)
    rw [nI_clamp (show i < 2 ^ 31 by omega)] at hP1 hD1
    have he : (va_up (fun j => (ts[j]?).map f) i (some (g 0))) = fun j => ((ts ++ [S.1.length])[j]?).map (fap S.1.length f g) := by
      funext j
      unfold va_up
      by_cases c : j = i
      · subst c
        rw [if_pos rfl, ← hts, List.getElem?_append_right (Nat.le_refl _), Nat.sub_self]
        show some (g 0) = some (fap S.1.length f g S.1.length)
        exact congrArg some (fap_r (n := S.1.length) (k := 0)).symm
      · rw [if_neg c]
        show (ts[j]?).map f = _
        by_cases c2 : j < i
        · rw [List.getElem?_append_left (by omega)]
          cases hj : ts[j]? with
          | none => rfl
          | some t =>
            have := List.all_eq_true.mp hok t (List.mem_of_getElem? hj)
            have ht : t < S.1.length := by simpa using this
            show some (f t) = some (fap S.1.length f g t)
            rw [fap_l ht]
        · rw [List.getElem?_eq_none_iff.mpr (by omega), List.getElem?_eq_none_iff.mpr (by simp; omega)]
          rfl
    rw [he] at hP1 hD1
    have hfin : YW (p, l, e, R, s, m, args, below, meth, c, A, cells, slots, Z) D ((h0, .inr (1, [.ref qa, .int 0, .int 0])) :: (qa, .inl (dC 2, yArr (fap S.1.length f g) (ts ++ [S.1.length]))) :: xW (fap S.1.length f g, (yadd S yS2).1, D, dC) (yadd S yS2).2) 36 [some (.ref h0), some (.int (nI i))] [] (k + 1 + 20) (n + 4 + 215) := by
      refine yw_iinc_1 (y := 1) cy dX1_init_36 (by decide) ?_
      refine yw_goto (tgt := 14) cy dX1_init_39 (by decide) ?_
      rw [nI_1]
      exact kk (fap S.1.length f g) qa
    have hw : xW (fap S.1.length f g, (yadd S yS2).1, D, dC) (yadd S yS2).2 = xW (f, S.1, D, dC) S.2 ++ xW (g, yS2.1, D, dC) yS2.2 := (xW_app ok).symm
    rw [hw] at hfin
    exact hfin H1 locs1 ls hP1 hD1 hS1 hl
  obtain ⟨p, l, e, R, s, m, args, below, meth, c, A, cells, slots, Z⟩ := w
  obtain ⟨hx, hb, hml, hown, hts2, -, -, hK, -, -, -, -⟩ := id cy
  intro H locs ls hP hD hS hl
  exact va_alen hx hb hK hP 1 2 rfl (ty := .object "PulledPanels$Lecture") rfl (v := nI 4) rfl dX1_init_19 (key H locs ls hP hD hS hl)
