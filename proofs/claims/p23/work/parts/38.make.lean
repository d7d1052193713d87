abbrev YS : Type := List XSh × XSt
def y0 : YS := ([], fun _ _ => 0)
def yadd (S T : YS) : YS := (S.1 ++ T.1.map (shS S.1.length), sap S.1.length S.2 T.2)
def ymk (ci : Nat) (cs : List YV) (S : YS) : YS := (ySH ci cs S.1, scons (yrow cs) S.2)
def yref (c : YV) : Option Nat := match c with
  | some (.inr k) => some k
  | _ => none
def YG (w : XO) (D : va_G) (dC : Nat → ClassId) (h0 ci pc : Nat) (lv : List (Option Value)) (cs : List YV) (S : YS) (k n : Nat) : Prop := ∀ f, YW w D ((h0, .inr (ci, cs.map (yval f))) :: xW (f, S.1, D, dC) S.2) pc lv [] k n
theorem YZ_init {mc ms h0 : Nat} {w : XO} {D : va_G} {dC : Nat → ClassId} {SH : List XSh} {σ : XSt} (h : YZ mc ms w D dC h0 SH σ) : yInit w := by
  obtain ⟨p, l, e, R, s, m, args, below, meth, c, A, cells, slots, Z⟩ := w
  exact h.2
section YGR
variable {d mc ms h0 ci : Nat} {w : XO} {D : va_G} {dC : Nat → ClassId} {μ : XMt} {pc k n : Nat} {lv lr : List (Option Value)} {cs : List YV} {S : YS}
theorem yg_start {zs : List Value} (hz : cs.map (yval (fun _ => 0)) = zs) (hr : cs.all (fun c => (yref c).isNone) = true) (kk : YG w D dC h0 ci pc lv cs y0 k n) : YW w D [(h0, .inr (ci, zs))] pc lv [] k n := by
  have := kk (fun _ => 0)
  rw [hz] at this
  exact this
theorem yv_ap {f g : Nat → Nat} (ok : cs.all (fun c => okF n (yref c)) = true) : cs.map (yval (fap n f g)) = cs.map (yval f) := by
  apply List.map_congr_left
  intro c hc
  have := List.all_eq_true.mp ok c hc
  rcases c with _ | x | k
  · rfl
  · rfl
  · have hk : k < n := by simpa [okF, yref] using this
    show Value.ref _ = Value.ref _
    rw [fap_l hk]
theorem yg_set {f g : Nat → Nat} {j : Nat} {cs2 : List YV} {T : YS} {q : Nat} (hq : q = g 0) (ok : S.1.all (okS S.1.length) = true) (okc : cs.all (fun c => okF S.1.length (yref c)) = true) (hcs : cs.set j (some (.inr S.1.length)) = cs2) (h : YG w D dC h0 ci pc lv cs2 (yadd S T) k n) : YW w D ((h0, .inr (ci, (cs.map (yval f)).set j (.ref q))) :: (xW (f, S.1, D, dC) S.2 ++ xW (g, T.1, D, dC) T.2)) pc lv [] k n := by
  have := h (fap S.1.length f g)
  rw [← hcs, List.map_set, yv_ap okc, show yval (fap S.1.length f g) (some (.inr S.1.length)) = .ref q from by
    show Value.ref _ = Value.ref _
    rw [hq]
    exact congrArg Value.ref (fap_r (n := S.1.length) (k := 0))] at this
  rw [xW_app ok]
  exact this
theorem yg_field {mc2 ms2 cj N idx idx2 idx3 len j : Nat} {ν : XMt} {as zs : List Value} {T : YS} {cs2 : List YV} (cy : CY (d + 1) mc ms w D dC μ) (hi : yInit w) (hM : YM w.2.1 D dC d mc2 ms2 cj ν zs as T.1 T.2)
    (hda : decode μ.2.1 pc = .ok (.aload_n 0, 1)) (hd0 : decode μ.2.1 (pc + 1) = .ok (.new idx, 3)) (hd1 : decode μ.2.1 (pc + 1 + 3) = .ok (.dup, 1)) (hd2 : yPush μ.2.1 (pc + 1 + 4) as len) (hd3 : decode μ.2.1 (pc + 1 + 4 + len) = .ok (.invokespecial idx2, 3)) (hd4 : decode μ.2.1 (pc + 1 + 4 + len + 3) = .ok (.putfield idx3, 3))
    (hC : yNew μ.1.cls idx cj N zs) (hν : yIf μ.1.cls ν idx2 as.length) (hf : ∀ q, yFp μ.1.cls idx3 ci j (.ref q)) (hlv : (some (.ref h0) :: lr : List (Option Value)).length = μ.2.2.1) (hk : k + 1 + mc2 ≤ mc) (hn : n + N + ms2 ≤ ms) (hj : j < cs.length)
    (ok : S.1.all (okS S.1.length) = true) (okc : cs.all (fun c => okF S.1.length (yref c)) = true) (hcs : cs.set j (some (.inr S.1.length)) = cs2)
    (kk : YG w D dC h0 ci (pc + 1 + 4 + len + 3 + 3) (some (.ref h0) :: lr) cs2 (yadd S T) (k + 1 + mc2) (n + N + ms2)) : YG w D dC h0 ci pc (some (.ref h0) :: lr) cs S k n := by
  intro f
  refine yw_aload_0 cy hda ?_
  refine yw_newinit cy hM hd0 hd1 hd2 hd3 hC hν hlv (by show 1 + 0 + 1 ≤ 8; decide) hk hn (fun g => ?_)
  refine yw_put cy hi hd4 (hf _) (by rw [List.length_map]; exact hj) ?_
  exact yg_set rfl ok okc hcs kk
theorem yg_arr {t N idx3 j len : Nat} {x : Int32} {at_ : ArrayType} {ty : FieldType} {cs2 : List YV} (hty : newarray.typeOf at_ = ty) (ht : (yT dC)[t]? = some (dC t, ty)) (ha : ∀ cA : ClassId, vp_cell cA (N, .inl (fun _ => 0)) = arrV cA N (fun _ => defaultValue ty)) (hra : ∀ (U : State) (cA : ClassId), va_RA U cA ty → U.vm.findClass ("[" ++ ty.toString) = some cA) (harr : Cond.arrayClass (newarray.typeOf at_) ∈ lw_good) (cy : CY d mc ms w D dC μ) (hi : yInit w)
    (hda : decode μ.2.1 pc = .ok (.aload_n 0, 1)) (hp : (∃ i, decode μ.2.1 (pc + 1) = .ok (.bipush i, 2) ∧ (Int8.ofInt i).toInt32 = x ∧ len = 2) ∨ (∃ i, decode μ.2.1 (pc + 1) = .ok (.sipush i, 3) ∧ (Int16.ofInt i).toInt32 = x ∧ len = 3)) (hd : decode μ.2.1 (pc + 1 + len) = .ok (.newarray at_, 2)) (hd4 : decode μ.2.1 (pc + 1 + len + 2) = .ok (.putfield idx3, 3))
    (hf : ∀ q, yFp μ.1.cls idx3 ci j (.ref q)) (hx0 : ¬ x < 0) (hN : x.toNatClampNeg = N) (hby : N * componentBytes ty ≤ 536870912) (hk : k + 1 ≤ mc) (hn : n + N ≤ ms) (hj : j < cs.length)
    (ok : S.1.all (okS S.1.length) = true) (okc : cs.all (fun c => okF S.1.length (yref c)) = true) (hcs : cs.set j (some (.inr S.1.length)) = cs2)
    (kk : YG w D dC h0 ci (pc + 1 + len + 2 + 3) (some (.ref h0) :: lr) cs2 (yadd S ([.inr (.inl (t, N))], fun _ _ => 0)) (k + 1) (n + N)) : YG w D dC h0 ci pc (some (.ref h0) :: lr) cs S k n := by
  intro f
  refine yw_aload_0 cy hda ?_
  have key : YW w D ((h0, .inr (ci, cs.map (yval f))) :: xW (f, S.1, D, dC) S.2) (pc + 1 + len) (some (.ref h0) :: lr) (.int x :: [.ref h0]) k n := by
    refine yw_newarr hty ht ha hra harr cy hd hx0 hN hby hk hn (fun q => ?_)
    refine yw_put cy hi hd4 (hf _) (by rw [List.length_map]; exact hj) ?_
    exact yg_set (T := ([.inr (.inl (t, N))], fun _ _ => 0)) rfl ok okc hcs kk
  rcases hp with ⟨i, h1, h2, rfl⟩ | ⟨i, h1, h2, rfl⟩
  · exact yw_bipush cy h1 h2 key
  · exact yw_sipush cy h1 h2 key
theorem yg_int {idx3 j len : Nat} {x : Int32} {cs2 : List YV} (cy : CY d mc ms w D dC μ) (hi : yInit w) (hda : decode μ.2.1 pc = .ok (.aload_n 0, 1)) (hp : (∃ i, decode μ.2.1 (pc + 1) = .ok (.bipush i, 2) ∧ (Int8.ofInt i).toInt32 = x ∧ len = 2) ∨ (∃ i, decode μ.2.1 (pc + 1) = .ok (.iconst i, 1) ∧ Int32.ofInt i = x ∧ len = 1)) (hd4 : decode μ.2.1 (pc + 1 + len) = .ok (.putfield idx3, 3)) (hf : yFp μ.1.cls idx3 ci j (.int x)) (hj : j < cs.length) (hcs : cs.set j (some (.inl x)) = cs2)
    (kk : YG w D dC h0 ci (pc + 1 + len + 3) (some (.ref h0) :: lr) cs2 S k n) : YG w D dC h0 ci pc (some (.ref h0) :: lr) cs S k n := by
  intro f
  refine yw_aload_0 cy hda ?_
  have key : YW w D ((h0, .inr (ci, cs.map (yval f))) :: xW (f, S.1, D, dC) S.2) (pc + 1 + len) (some (.ref h0) :: lr) (.int x :: [.ref h0]) k n := by
    refine yw_put cy hi hd4 hf (by rw [List.length_map]; exact hj) ?_
    have := kk f
    rw [← hcs, List.map_set] at this
    exact this
  rcases hp with ⟨i, h1, h2, rfl⟩ | ⟨i, h1, h2, rfl⟩
  · exact yw_bipush cy h1 h2 key
  · exact yw_iconst cy h1 h2 key
theorem yg_toX {lvf : Nat → List (Option Value)} {σT : XSt} (cy : CY d mc ms w D dC μ) (cz : YZ mc ms w D dC h0 (ymk ci cs S).1 σT) (hret : μ.2.2.2 = none) (hs : cs.all (fun c => c.isSome) = true) (hk : k ≤ mc) (hn : n ≤ ms)
    (kk : ∀ (E : XEnv) (w2 : XO), E.2.1 = (ymk ci cs S).1 → w2.2.1 = w.2.1 → CX d w2 E μ → (∀ pc2 lv2, decode μ.2.1 pc2 = .ok (.return_, 1) → XG w2 E pc2 lv2 [] σT) → XG w2 E pc (lvf (xad E 0)) [] (ymk ci cs S).2) : YG w D dC h0 ci pc (lvf h0) cs S k n := by
  obtain ⟨p, l, e, R, s, m, args, below, meth, c, A, cells, slots, Z⟩ := w
  intro f H locs ls hP hD hS hl
  obtain ⟨hx, hb, hml, hown, hts, hN, hAO, hK, hA, ⟨g1, g2, g3, g4⟩, hr, hlocks⟩ := cy
  obtain ⟨rfl, -⟩ := cz
  rw [xW_cons hs] at hP hD
  refine kk (fcons h0 f, (ymk ci cs S).1, D, dC) (p, l, e, R, s, m, args, below, meth, c, A, k, n, MQ below (yQ D dC (ymk ci cs S).1 σT A h0) args s mc ms A) rfl rfl ?_ (fun pc2 lv2 hd H2 locs2 ls2 hP2 hS2 hl2 => ?_) H locs ls hP hS hl
  · exact ⟨hx, hb, hml, hown, hts, hN, hK, xD_to _ hD, ⟨g1, g2, Nat.le_trans hk g3, Nat.le_trans hn g4⟩, hr, hlocks⟩
  · refine W.widen (k := mc) (n := ms) hk hn ?_
    exact W.vret hx hb (hr.trans hret) (fun t ht hW => ⟨⟨fcons h0 f, rfl, rfl, by rw [ht]; exact hP2, xD_to (E := (fcons h0 f, (ymk ci cs S).1, D, dC)) σT hD⟩, hS2.F ht⟩) hS2.2.2 hd hlocks
theorem yg_ret (cy : CY d mc ms w D dC μ) (cz : YZ mc ms w D dC h0 (ymk ci cs S).1 (ymk ci cs S).2) (hret : μ.2.2.2 = none) (hs : cs.all (fun c => c.isSome) = true) (hk : k ≤ mc) (hn : n ≤ ms) (hd : decode μ.2.1 pc = .ok (.return_, 1)) : YG w D dC h0 ci pc lv cs S k n :=
  yg_toX (lvf := fun _ => lv) cy cz hret hs hk hn (fun E w2 _ _ _ hr => hr pc lv hd)
end YGR
theorem y_arrI : Cond.arrayClass (newarray.typeOf .int) ∈ lw_good := x_good 50 (by decide +kernel) rfl
theorem y_arrC : Cond.arrayClass (newarray.typeOf .char) ∈ lw_good := x_good 252 (by decide +kernel) rfl
theorem yfp_X5_13 (q : Nat) : yFp RX5 13 5 0 (.ref q) := ⟨RX5, TX5, 1, tyX5 0, rfl, cf_X5, by decide, x_good 46 (by decide +kernel) rfl, rfl, tyX5_ok 0 (by decide), rfl, rfl⟩
def yS5 (N : Nat) : YS := ymk 5 [some (.inr 0)] (yadd y0 ([.inr (.inl (0, N))], fun _ _ => 0))
theorem y_X5 {l : Launch} {D : va_G} {dC : Nat → ClassId} {d : Nat} (N : Nat) (hN : 0 < N) (hN2 : N < 1000) : YM l D dC (d + 1) 1 N 5 mX5_init [.null] [.int (nI N)] (yS5 N).1 (yS5 N).2 := by
  refine yr_entry (fun h0 => [some (.ref h0), some (.int (nI N))]) (by decide +kernel) (fun u hu => by simp at hu; subst hu; rfl) (by show 1 + 1 ≤ 2; decide) (fun h0 => rfl) rfl (fun h0 w hw cy cz => ?_)
  have hi := YZ_init cz
  subst hw
  refine yw_aload_0 cy dX5_init_0 ?_
  refine yw_obj cy dX5_init_1 rfl (x_good 42 (by decide +kernel) rfl) (by decide) ?_
  refine yg_start (dC := dC) (cs := [none]) rfl (by decide +kernel) ?_
  intro f
  refine yw_aload_0 cy dX5_init_4 ?_
  refine yw_iload_1 cy dX5_init_5 ?_
  refine yw_iconst (v := 0) cy dX5_init_6 (by decide) ?_
  refine yw_mmax cy dX5_init_7 rfl ml_X5_7 (by show 1 + 0 ≤ 8; decide) (Nat.zero_le _) (Nat.zero_le _) ?_
  rw [if_neg (nI_pos (by omega))]
  refine yw_newarr (N := N) (at_ := .int) (t := 0) (ty := .int) rfl rfl (fun _ => rfl) (fun _ _ h => h) y_arrI cy dX5_init_10 (nI_pos (by omega)) (nI_clamp (by omega)) (by show N * 4 ≤ 536870912; omega) (Nat.le_refl _) (by omega) (fun q => ?_)
  refine yw_put cy hi dX5_init_12 (yfp_X5_13 q) (by show 0 < 1; decide) ?_
  refine yg_set (T := ([.inr (.inl (0, N))], fun _ _ => 0)) rfl rfl rfl rfl ?_
  exact yg_ret cy cz rfl rfl (Nat.le_refl _) (by omega) dX5_init_15
theorem yfp_X6_14 (q : Nat) : yFp RX6 14 6 0 (.ref q) := ⟨RX6, TX6, 4, tyX6 0, rfl, cf_X6, by decide, x_good 51 (by decide +kernel) rfl, rfl, tyX6_ok 0 (by decide), rfl, rfl⟩
theorem ynw_X6_9 : yNew RX6 9 5 1 [.null] := ⟨RX5, TX5, tyX5, rfl, cf_X5, tyX5_ok, x_good 37 (by decide +kernel) rfl, x_good 38 (by decide +kernel) rfl, x_good 8 (by decide +kernel) rfl, fun j hj => by rcases (show j = 0 by omega) with rfl <;> rfl⟩
theorem yif_X6_11 : yIf RX6 mX5_init 11 1 := ⟨rfl, x_good 40 (by decide +kernel) rfl, x_good 8 (by decide +kernel) rfl, x_good 41 (by decide +kernel) rfl, rfl, ⟨by decide, by decide⟩, by decide +kernel, by decide, Or.inl ml_X6_11⟩
theorem yfp_X6_20 (q : Nat) : yFp RX6 20 6 1 (.ref q) := ⟨RX6, TX6, 4, tyX6 1, rfl, cf_X6, by decide, x_good 54 (by decide +kernel) rfl, rfl, tyX6_ok 1 (by decide), rfl, rfl⟩
def yS6 : YS := ymk 6 [some (.inr 0), some (.inr 2), some (.inl 0), some (.inl 0)] (yadd (yadd y0 (yS5 30)) (yS5 30))
set_option maxRecDepth 100000 in
theorem y_X6 {l : Launch} {D : va_G} {dC : Nat → ClassId} {d : Nat} : YM l D dC (d + 2) 4 62 6 mX6_init [.null, .null, .int 0, .int 0] [] yS6.1 yS6.2 := by
  refine yr_entry (fun h0 => [some (.ref h0)]) (by decide +kernel) (fun u hu => by cases hu) (by decide) (fun h0 => rfl) rfl (fun h0 w hw cy cz => ?_)
  have hi := YZ_init cz
  subst hw
  refine yw_aload_0 cy dX6_init_0 ?_
  refine yw_obj cy dX6_init_1 rfl (x_good 36 (by decide +kernel) rfl) (by decide) ?_
  refine yg_start (dC := dC) (cs := [none, none, some (.inl 0), some (.inl 0)]) rfl (by decide +kernel) ?_
  refine yg_field (T := (yS5 30)) (cs2 := [some (.inr 0), none, some (.inl 0), some (.inl 0)]) (len := 2) cy hi (y_X5 30 (by decide) (by decide)) dX6_init_4 dX6_init_5 dX6_init_8 (Or.inr (Or.inl ⟨30, 30, rfl, dX6_init_9, by decide, rfl⟩)) dX6_init_11 dX6_init_14 ynw_X6_9 yif_X6_11 (fun q => yfp_X6_14 q) rfl (by decide) (by decide) (by decide) (by decide +kernel) (by decide +kernel) (by decide +kernel) ?_
  refine yg_field (T := (yS5 30)) (cs2 := [some (.inr 0), some (.inr 2), some (.inl 0), some (.inl 0)]) (len := 2) cy hi (y_X5 30 (by decide) (by decide)) dX6_init_17 dX6_init_18 dX6_init_21 (Or.inr (Or.inl ⟨30, 30, rfl, dX6_init_22, by decide, rfl⟩)) dX6_init_24 dX6_init_27 ynw_X6_9 yif_X6_11 (fun q => yfp_X6_20 q) rfl (by decide) (by decide) (by decide) (by decide +kernel) (by decide +kernel) (by decide +kernel) ?_
  exact yg_ret cy cz rfl (by decide +kernel) (by decide) (by decide) dX6_init_30
theorem yfp_X3_14 (q : Nat) : yFp RX3 14 3 0 (.ref q) := ⟨RX3, TX3, 4, tyX3 0, rfl, cf_X3, by decide, x_good 124 (by decide +kernel) rfl, rfl, tyX3_ok 0 (by decide), rfl, rfl⟩
theorem ynw_X3_9 : yNew RX3 9 5 1 [.null] := ⟨RX5, TX5, tyX5, rfl, cf_X5, tyX5_ok, x_good 122 (by decide +kernel) rfl, x_good 38 (by decide +kernel) rfl, x_good 8 (by decide +kernel) rfl, fun j hj => by rcases (show j = 0 by omega) with rfl <;> rfl⟩
theorem yif_X3_11 : yIf RX3 mX5_init 11 1 := ⟨rfl, x_good 40 (by decide +kernel) rfl, x_good 8 (by decide +kernel) rfl, x_good 41 (by decide +kernel) rfl, rfl, ⟨by decide, by decide⟩, by decide +kernel, by decide, Or.inl ml_X3_11⟩
theorem yfp_X3_20 (q : Nat) : yFp RX3 20 3 1 (.ref q) := ⟨RX3, TX3, 4, tyX3 1, rfl, cf_X3, by decide, x_good 126 (by decide +kernel) rfl, rfl, tyX3_ok 1 (by decide), rfl, rfl⟩
def yS3 : YS := ymk 3 [some (.inr 0), some (.inr 2), some (.inl 0), some (.inl 0)] (yadd (yadd y0 (yS5 40)) (yS5 40))
set_option maxRecDepth 100000 in
theorem y_X3 {l : Launch} {D : va_G} {dC : Nat → ClassId} {d : Nat} : YM l D dC (d + 2) 4 82 3 mX3_init [.null, .null, .int 0, .int 0] [] yS3.1 yS3.2 := by
  refine yr_entry (fun h0 => [some (.ref h0)]) (by decide +kernel) (fun u hu => by cases hu) (by decide) (fun h0 => rfl) rfl (fun h0 w hw cy cz => ?_)
  have hi := YZ_init cz
  subst hw
  refine yw_aload_0 cy dX3_init_0 ?_
  refine yw_obj cy dX3_init_1 rfl (x_good 121 (by decide +kernel) rfl) (by decide) ?_
  refine yg_start (dC := dC) (cs := [none, none, some (.inl 0), some (.inl 0)]) rfl (by decide +kernel) ?_
  refine yg_field (T := (yS5 40)) (cs2 := [some (.inr 0), none, some (.inl 0), some (.inl 0)]) (len := 2) cy hi (y_X5 40 (by decide) (by decide)) dX3_init_4 dX3_init_5 dX3_init_8 (Or.inr (Or.inl ⟨40, 40, rfl, dX3_init_9, by decide, rfl⟩)) dX3_init_11 dX3_init_14 ynw_X3_9 yif_X3_11 (fun q => yfp_X3_14 q) rfl (by decide) (by decide) (by decide) (by decide +kernel) (by decide +kernel) (by decide +kernel) ?_
  refine yg_field (T := (yS5 40)) (cs2 := [some (.inr 0), some (.inr 2), some (.inl 0), some (.inl 0)]) (len := 2) cy hi (y_X5 40 (by decide) (by decide)) dX3_init_17 dX3_init_18 dX3_init_21 (Or.inr (Or.inl ⟨40, 40, rfl, dX3_init_22, by decide, rfl⟩)) dX3_init_24 dX3_init_27 ynw_X3_9 yif_X3_11 (fun q => yfp_X3_20 q) rfl (by decide) (by decide) (by decide) (by decide +kernel) (by decide +kernel) (by decide +kernel) ?_
  exact yg_ret cy cz rfl (by decide +kernel) (by decide) (by decide) dX3_init_30
theorem yfp_X7_14 (q : Nat) : yFp RX7 14 7 0 (.ref q) := ⟨RX7, TX7, 7, tyX7 0, rfl, cf_X7, by decide, x_good 150 (by decide +kernel) rfl, rfl, tyX7_ok 0 (by decide), rfl, rfl⟩
theorem ynw_X7_9 : yNew RX7 9 5 1 [.null] := ⟨RX5, TX5, tyX5, rfl, cf_X5, tyX5_ok, x_good 148 (by decide +kernel) rfl, x_good 38 (by decide +kernel) rfl, x_good 8 (by decide +kernel) rfl, fun j hj => by rcases (show j = 0 by omega) with rfl <;> rfl⟩
theorem yif_X7_11 : yIf RX7 mX5_init 11 1 := ⟨rfl, x_good 40 (by decide +kernel) rfl, x_good 8 (by decide +kernel) rfl, x_good 41 (by decide +kernel) rfl, rfl, ⟨by decide, by decide⟩, by decide +kernel, by decide, Or.inl ml_X7_11⟩
def yS7 : YS := ymk 7 [some (.inr 0), some (.inl 0), some (.inl 0), some (.inl 0), some (.inl 0), some (.inl 0), some (.inl 0)] (yadd y0 (yS5 30))
set_option maxRecDepth 100000 in
theorem y_X7 {l : Launch} {D : va_G} {dC : Nat → ClassId} {d : Nat} : YM l D dC (d + 2) 2 31 7 mX7_init [.null, .int 0, .int 0, .int 0, .int 0, .int 0, .int 0] [] yS7.1 yS7.2 := by
  refine yr_entry (fun h0 => [some (.ref h0)]) (by decide +kernel) (fun u hu => by cases hu) (by decide) (fun h0 => rfl) rfl (fun h0 w hw cy cz => ?_)
  have hi := YZ_init cz
  subst hw
  refine yw_aload_0 cy dX7_init_0 ?_
  refine yw_obj cy dX7_init_1 rfl (x_good 147 (by decide +kernel) rfl) (by decide) ?_
  refine yg_start (dC := dC) (cs := [none, some (.inl 0), some (.inl 0), some (.inl 0), some (.inl 0), some (.inl 0), some (.inl 0)]) rfl (by decide +kernel) ?_
  refine yg_field (T := (yS5 30)) (cs2 := [some (.inr 0), some (.inl 0), some (.inl 0), some (.inl 0), some (.inl 0), some (.inl 0), some (.inl 0)]) (len := 2) cy hi (y_X5 30 (by decide) (by decide)) dX7_init_4 dX7_init_5 dX7_init_8 (Or.inr (Or.inl ⟨30, 30, rfl, dX7_init_9, by decide, rfl⟩)) dX7_init_11 dX7_init_14 ynw_X7_9 yif_X7_11 (fun q => yfp_X7_14 q) rfl (by decide) (by decide) (by decide) (by decide +kernel) (by decide +kernel) (by decide +kernel) ?_
  exact yg_ret cy cz rfl (by decide +kernel) (by decide) (by decide) dX7_init_17
theorem yfp_X4_14 (q : Nat) : yFp RX4 14 4 0 (.ref q) := ⟨RX4, TX4, 8, tyX4 0, rfl, cf_X4, by decide, x_good 231 (by decide +kernel) rfl, rfl, tyX4_ok 0 (by decide), rfl, rfl⟩
theorem ynw_X4_9 : yNew RX4 9 5 1 [.null] := ⟨RX5, TX5, tyX5, rfl, cf_X5, tyX5_ok, x_good 229 (by decide +kernel) rfl, x_good 38 (by decide +kernel) rfl, x_good 8 (by decide +kernel) rfl, fun j hj => by rcases (show j = 0 by omega) with rfl <;> rfl⟩
theorem yif_X4_11 : yIf RX4 mX5_init 11 1 := ⟨rfl, x_good 40 (by decide +kernel) rfl, x_good 8 (by decide +kernel) rfl, x_good 41 (by decide +kernel) rfl, rfl, ⟨by decide, by decide⟩, by decide +kernel, by decide, Or.inl ml_X4_11⟩
theorem yfp_X4_20 (q : Nat) : yFp RX4 20 4 1 (.ref q) := ⟨RX4, TX4, 8, tyX4 1, rfl, cf_X4, by decide, x_good 232 (by decide +kernel) rfl, rfl, tyX4_ok 1 (by decide), rfl, rfl⟩
theorem yfp_X4_23 (q : Nat) : yFp RX4 23 4 4 (.ref q) := ⟨RX4, TX4, 8, tyX4 4, rfl, cf_X4, by decide, x_good 234 (by decide +kernel) rfl, rfl, tyX4_ok 4 (by decide), rfl, rfl⟩
def yS4 : YS := ymk 4 [some (.inr 0), some (.inr 2), some (.inl 0), some (.inl 0), some (.inr 4), some (.inl 0), some (.inl 0), some (.inl 0)] (yadd (yadd (yadd y0 (yS5 30)) (yS5 30)) ([.inr (.inl (1, 60))], fun _ _ => 0))
set_option maxRecDepth 100000 in
theorem y_X4 {l : Launch} {D : va_G} {dC : Nat → ClassId} {d : Nat} : YM l D dC (d + 2) 5 122 4 mX4_init [.null, .null, .int 0, .int 0, .null, .int 0, .int 0, .int 0] [] yS4.1 yS4.2 := by
  refine yr_entry (fun h0 => [some (.ref h0)]) (by decide +kernel) (fun u hu => by cases hu) (by decide) (fun h0 => rfl) rfl (fun h0 w hw cy cz => ?_)
  have hi := YZ_init cz
  subst hw
  refine yw_aload_0 cy dX4_init_0 ?_
  refine yw_obj cy dX4_init_1 rfl (x_good 228 (by decide +kernel) rfl) (by decide) ?_
  refine yg_start (dC := dC) (cs := [none, none, some (.inl 0), some (.inl 0), none, some (.inl 0), some (.inl 0), some (.inl 0)]) rfl (by decide +kernel) ?_
  refine yg_field (T := (yS5 30)) (cs2 := [some (.inr 0), none, some (.inl 0), some (.inl 0), none, some (.inl 0), some (.inl 0), some (.inl 0)]) (len := 2) cy hi (y_X5 30 (by decide) (by decide)) dX4_init_4 dX4_init_5 dX4_init_8 (Or.inr (Or.inl ⟨30, 30, rfl, dX4_init_9, by decide, rfl⟩)) dX4_init_11 dX4_init_14 ynw_X4_9 yif_X4_11 (fun q => yfp_X4_14 q) rfl (by decide) (by decide) (by decide) (by decide +kernel) (by decide +kernel) (by decide +kernel) ?_
  refine yg_field (T := (yS5 30)) (cs2 := [some (.inr 0), some (.inr 2), some (.inl 0), some (.inl 0), none, some (.inl 0), some (.inl 0), some (.inl 0)]) (len := 2) cy hi (y_X5 30 (by decide) (by decide)) dX4_init_17 dX4_init_18 dX4_init_21 (Or.inr (Or.inl ⟨30, 30, rfl, dX4_init_22, by decide, rfl⟩)) dX4_init_24 dX4_init_27 ynw_X4_9 yif_X4_11 (fun q => yfp_X4_20 q) rfl (by decide) (by decide) (by decide) (by decide +kernel) (by decide +kernel) (by decide +kernel) ?_
  refine yg_arr (N := 60) (x := 60) (cs2 := [some (.inr 0), some (.inr 2), some (.inl 0), some (.inl 0), some (.inr 4), some (.inl 0), some (.inl 0), some (.inl 0)]) (len := 2) (at_ := .char) (t := 1) (ty := .char) rfl rfl (fun _ => rfl) (fun _ _ h => h) y_arrC cy hi dX4_init_30 (Or.inl ⟨60, dX4_init_31, by decide, rfl⟩) dX4_init_33 dX4_init_35 (fun q => yfp_X4_23 q) (by decide) (by decide) (Nat.le_of_ble_eq_true rfl) (by decide) (by decide) (by decide) (by decide +kernel) (by decide +kernel) (by decide +kernel) ?_
  exact yg_ret cy cz rfl (by decide +kernel) (by decide) (by decide) dX4_init_38
