/-- an int pushed for a maker, or none -/
def yPush (cc : ByteArray) (pc : Nat) (as : List Value) (len : Nat) : Prop := (as = [] ∧ len = 0) ∨ (∃ (x : Int32) (i : Int), as = [.int x] ∧ decode cc pc = .ok (.bipush i, 2) ∧ (Int8.ofInt i).toInt32 = x ∧ len = 2) ∨ (∃ (x : Int32) (i : Int), as = [.int x] ∧ decode cc pc = .ok (.iconst i, 1) ∧ Int32.ofInt i = x ∧ len = 1)
/-- a maker's words -/
def yIf (own : String) (ν : XMt) (idx n : Nat) : Prop := ν.1.name = "<init>" ∧ Cond.instanceMethod ν.1 ∈ lw_good ∧ Cond.initialized ν.1.cls ∈ lw_good ∧ Cond.code ν.1 ν.2.1 ν.2.2.1 none ∈ lw_good ∧ ν.2.2.2 = none ∧ (ν.1.cls ≠ "java/lang/invoke/MethodHandle" ∧ ν.1.cls ≠ "java/lang/invoke/VarHandle") ∧ (parseMethodDescriptor ν.1.desc).map (fun d => d.parameters.length) = some n ∧ ν.2.2.1 ≤ 15 ∧ (Cond.methodLink own idx ν.1 ∈ lw_good ∨ ∃ host, Cond.methodLinkNest own idx ν.1 host ∈ lw_nest)
/-- a class to be made: its number, slots, words, first values -/
def yNew (own : String) (idx ci N : Nat) (zs : List Value) : Prop := ∃ (C : String) (T : u_T) (ty : Nat → FieldType), vwCl[ci]? = some (C, T, N) ∧ xCf C T N ∧ (∀ k, k < N → parseFieldDescriptor (T k).2.2.1 = some (ty k)) ∧ Cond.classLink own idx C ∈ lw_good ∧ Cond.instantiable C N ∈ lw_good ∧ Cond.initialized C ∈ lw_good ∧ ∀ j, j < N → defaultValue (ty j) = vp_V zs j
/-- a field of the maker's own object -/
def yFp (own : String) (idx ci j : Nat) (v : Value) : Prop := ∃ (C : String) (T : u_T) (N : Nat) (ty : FieldType), vwCl[ci]? = some (C, T, N) ∧ xCf C T N ∧ j < N ∧ Cond.fieldLink own idx (T j).1 (T j).2.1 (T j).2.2.1 ∈ lw_good ∧ (T j).1 = own ∧ parseFieldDescriptor (T j).2.2.1 = some ty ∧ narrow ty v = v ∧ fits ty v = true
def yInit (w : XO) : Prop := match w with
  | (_, _, _, _, _, _, _, _, meth, _) => meth.name = "<init>"
section YR2
variable {d mc ms : Nat} {w : XO} {D : va_G} {dC : Nat → ClassId} {μ : XMt} {world rest : va_W} {pc k n : Nat} {lv lr : List (Option Value)} {st r : List Value}
theorem yw_put {ci h0 j idx : Nat} {fs : List Value} {v : Value} (cy : CY d mc ms w D dC μ) (hmn : yInit w) (hd : decode μ.2.1 pc = .ok (.putfield idx, 3)) (hf : yFp μ.1.cls idx ci j v) (hj : j < fs.length) (kk : YW w D ((h0, .inr (ci, fs.set j v)) :: rest) (pc + 3) lv r k n) : YW w D ((h0, .inr (ci, fs)) :: rest) pc lv (v :: .ref h0 :: r) k n := by
  obtain ⟨p, l, e, R, s, m, args, below, meth, c, A, cells, slots, Z⟩ := w
  obtain ⟨C, T, N, ty, hC, ⟨hin, ⟨ty0, hty0⟩, hnm⟩, hjN, hl0, hown2, hty, hn, hfit⟩ := hf
  intro H locs ls hP hD hS hl
  obtain ⟨hx, hb, hml, hown, hts, -, -, hK, -, -, -, -⟩ := cy
  cases hfin : (T j).2.2.2 with
  | false => exact va_put (Ts := lw_good) hx hb hts hin ty0 hty0 hnm hown hK hP hD hS 0 rfl hC j hjN (hts _ hl0) (fun _ h => h) hfin hty hn hfit hj hd (fun H1 locs1 hP1 hD1 hS1 => kk H1 locs1 ls hP1 hD1 hS1 hl)
  | true => exact va_putF (Ts := lw_good) hx hb hts hin ty0 hty0 hnm hown hK hP hD hS 0 rfl hC j hjN (hts _ hl0) (fun _ h => h) hfin hmn hown2 hty hn hfit hj hd (fun H1 locs1 hP1 hD1 hS1 => kk H1 locs1 ls hP1 hD1 hS1 hl)
theorem yw_newarr {t N : Nat} {x : Int32} {at_ : ArrayType} {ty : FieldType} (hty : newarray.typeOf at_ = ty) (ht : (yT dC)[t]? = some (dC t, ty)) (ha : ∀ cA : ClassId, vp_cell cA (N, .inl (fun _ => 0)) = arrV cA N (fun _ => defaultValue ty)) (hra : ∀ (U : State) (cA : ClassId), va_RA U cA ty → U.vm.findClass ("[" ++ ty.toString) = some cA) (harr : Cond.arrayClass (newarray.typeOf at_) ∈ lw_good) (cy : CY d mc ms w D dC μ) (hd : decode μ.2.1 pc = .ok (.newarray at_, 2)) (hx0 : ¬ x < 0) (hN : x.toNatClampNeg = N) (hby : N * componentBytes ty ≤ 536870912) (hk : k + 1 ≤ mc) (hn : n + N ≤ ms)
    (kk : ∀ q, YW w D (world ++ xW ((fun _ => q), [.inr (.inl (t, N))], D, dC) (fun _ _ => 0)) (pc + 2) lv (.ref q :: r) (k + 1) (n + N)) : YW w D world pc lv (.int x :: r) k n := by
  obtain ⟨p, l, e, R, s, m, args, below, meth, c, A, cells, slots, Z⟩ := w
  intro H locs ls hP hD hS hl
  obtain ⟨hx, hb, hml, hown, hts, -, -, hK, hA, ⟨-, -, h3, h4⟩, -, -⟩ := cy
  refine va_newa hx hb (hts _ harr) hty hK hP hD hS hA ha hx0 hN hby (Nat.le_trans hk h3) (Nat.le_trans hn h4) hd (fun q cA H1 hK1 hP1 hD1 hS1 => ?_)
  have e1 : s.vm.findClass ("[" ++ ty.toString) = some cA := hra s cA (hK1.2 (yT dC).length (cA, ty) (y_app_r (i := 0) rfl)).2
  have e2 : s.vm.findClass ("[" ++ ty.toString) = some (dC t) := hra s (dC t) (hK.2 t _ ht).2
  have e3 : cA = dC t := Option.some.inj (e1.symm.trans e2)
  subst e3
  exact kk q H1 locs ls hP1 hD1 hS1 hl
theorem yw_newinit {mc2 ms2 ci N idx idx2 len : Nat} {ν : XMt} {as zs : List Value} {SH : List XSh} {σ : XSt} (cy : CY (d + 1) mc ms w D dC μ) (hM : YM w.2.1 D dC d mc2 ms2 ci ν zs as SH σ)
    (hd0 : decode μ.2.1 pc = .ok (.new idx, 3)) (hd1 : decode μ.2.1 (pc + 3) = .ok (.dup, 1)) (hd2 : yPush μ.2.1 (pc + 4) as len) (hd3 : decode μ.2.1 (pc + 4 + len) = .ok (.invokespecial idx2, 3))
    (hC : yNew μ.1.cls idx ci N zs) (hν : yIf μ.1.cls ν idx2 as.length) (hlv : lv.length = μ.2.2.1) (hr : ((st.map fun v => v.category).sum) + 1 ≤ 8) (hk : k + 1 + mc2 ≤ mc) (hn : n + N + ms2 ≤ ms)
    (kk : ∀ f, YW w D (world ++ xW (f, SH, D, dC) σ) (pc + 4 + len + 3) lv (.ref (f 0) :: st) (k + 1 + mc2) (n + N + ms2)) : YW w D world pc lv st k n := by
  obtain ⟨p, l, e, R, s, m, args, below, meth, c, A, cells, slots, Z⟩ := w
  obtain ⟨C, T, ty, c1, ⟨hin, -, -⟩, c3, c4, c5, c6, c7⟩ := hC
  obtain ⟨hx, hb, hml, hown, hts, hN, hAO, hK, hA, ⟨g1, g2, g3, g4⟩, -, -⟩ := id cy
  obtain ⟨y, cc, nL, ret⟩ := ν
  obtain ⟨v1, v2, v3, v4, rfl, v6, v7, v8, v9⟩ := hν
  intro H locs ls hP hD hS hl
  refine va_new (Ts := lw_good) hx hb hts hin ty c3 hown (hts _ c4) (hts _ c5) (hts _ c6) hK hP hD hS hA c1 c7 (by omega) (by omega) hd0 (fun q H hP hD hS => ?_)
  refine lv_dup hx hb hd1 rfl ?_
  have hFc : ∀ z, yA ci q H.size zs z → A z := fun z hz => by
    rcases hz with ⟨k2, e2, h⟩ | h
    · have h1 := (List.getElem?_eq_some_iff.mp h).1
      simp at h1
      subst h1
      cases h
      exact hD.2 _ _ (y_app_r (i := 0) rfl)
    · exact hA z (Nat.le_trans hS.1 h)
  have hPc : va_P D vwCl [(q, .inr (ci, zs))] H := fun k2 x hx2 => hP _ _ (y_app_r hx2)
  have key : W p l e R s m args below meth c H locs (k + 1) (n + N) Z (F0 m (pc + 4 + len) ls (as.reverse ++ .ref q :: .ref q :: st)) := by
    have hgo : va_Run p l e R s m args below meth c H locs (k + 1) (n + N) mc2 ms2 (F0 m (pc + 4 + len) ls (as.reverse ++ .ref q :: .ref q :: st)) (.ref q :: st) (yQ D dC SH σ (yA ci q H.size zs) q (Value.ref q :: as).toArray) (yA ci q H.size zs) := by
      have hPre : PreS s H (yP D dC ci q H.size zs as) (.ref q :: as) := by
        refine ⟨?_, fun U hU hW => ⟨rfl, by rw [hU], by rw [hU]; exact hPc, va_K.moved hW.alike hK, fun v hv => x_nestW v hv hW (hN v hv), va_AO.moved hW.alike hAO⟩⟩
        rintro a U g mk ⟨h0, h1, h2, h3, h4, h5⟩
        exact ⟨h0, h1, h2, va_K.moved (u := U) (U := U.calling g mk a) (Vm.Alike.refl U.vm) h3, fun v hv => va_Nw.same (u := U) (U := U.calling g mk a) (x_nestT v hv) rfl (h4 v hv), va_AO.moved (u := U) (U := U.calling g mk a) (Vm.Alike.refl U.vm) h5⟩
      have hroom : 8 + (nL + 11) + 34 * d ≤ R.locals := by
        have : nL ≤ 15 := v8
        omega
      have hst2 : 2 * (F0 m (pc + 4 + len) ls (as.reverse ++ .ref q :: .ref q :: st)).monitorRoom + ((Value.ref q :: st).map fun v => v.category).sum ≤ 8 := by
        show 2 * 0 + (1 + (st.map fun v => v.category).sum) ≤ 8
        omega
      rcases v9 with v9 | ⟨host, v9⟩
      · exact va_runI (As := as) (rest := .ref q :: st) (n := as.length) (nL := μ.2.2.1) (Ts := lw_good) ⟨hx, hb, hml, hown, hts⟩ (hM q H.size) ⟨⟨rfl, rfl, g1, hroom, x_pay (ν := (y, cc, nL, none)) hts v4, List.mem_cons_self, hts _ v4, hts _ v3, v6, x_len v7, hts _ v9⟩, v1, hts _ v2⟩ hPre rfl rfl (by rw [← hlv]; exact hl.1) rfl hst2 hd3 ⟨by omega, by omega⟩
      · exact va_runIN (As := as) (rest := .ref q :: st) (n := as.length) (nL := μ.2.2.1) (Ts := lw_good) ⟨hx, hb, hml, hown, hts⟩ (hM q H.size) ⟨⟨⟨rfl, rfl, g1, hroom, x_pay (ν := (y, cc, nL, none)) hts v4, List.mem_cons_self⟩, hts _ v4, hts _ v3, v6, x_len v7, va_Nw.use rfl (hN _ v9)⟩, v1, hts _ v2⟩ hPre rfl rfl (by rw [← hlv]; exact hl.1) rfl hst2 hd3 ⟨by omega, by omega⟩
    refine va_callv hgo hS (fun z _ h => hFc z h) hFc (fun u t H1 locs1 ht hvm hw hB hz1 hk1 hS1 => ?_)
    obtain ⟨hP1, hD1⟩ := hB
    rw [ht] at hP1
    obtain ⟨hP2, hD2⟩ := y_join hP hD hk1 hFc hP1 hD1
    have := kk u H1 locs1 ls hP2 hD2 hS1 hl
    rw [hw] at this
    exact this
  rcases hd2 with ⟨rfl, rfl⟩ | ⟨x, i, rfl, h1, h2, rfl⟩ | ⟨x, i, rfl, h1, h2, rfl⟩
  · exact key
  · exact lv_bipush hx hb h1 h2 key
  · exact lv_iconst hx hb h1 h2 key
end YR2
