/-! Y LOGIC: makers. The world grows: a list of cells; YW: the frame stands at pc with this world, k cells and n slots made so far, and comes to its end -/
def yT (dC : Nat → ClassId) : List (ClassId × FieldType) := [(dC 0, .int), (dC 1, .char), (dC 2, .object "PulledPanels$Lecture")]
def YW (w : XO) (D : va_G) (world : va_W) (pc : Nat) (lv : List (Option Value)) (st : List Value) (k n : Nat) : Prop := match w with
  | (p, l, e, R, s, m, args, below, meth, c, A, _, _, Z) => ∀ (H : Heap) (locs : List Loc) (ls : Array Slot), va_P D vwCl world H → va_D A world → va_S A s.heap H locs → xL ls lv → W p l e R s m args below meth c H locs k n Z (F0 m pc ls st)
def CY (d mc ms : Nat) (w : XO) (D : va_G) (dC : Nat → ClassId) (μ : XMt) : Prop := match w with
  | (p, _, _, R, s, m, args, _, meth, c, A, _, _, _) => p.tables.exec = Jvm.exec ∧ c.code = μ.2.1 ∧ c.maxLocals = μ.2.2.1 ∧ s.vm.findClass μ.1.cls = some m.cls ∧ (∀ v ∈ lw_good, v.before args s = true) ∧ (∀ v ∈ lw_nest, va_Nw v s) ∧ va_AO "PulledPanels$Lecture" s ∧ va_K D vwCl (yT dC) s ∧ (∀ q, s.heap.size ≤ q → A q) ∧ (d ≤ R.frames ∧ 34 * d ≤ R.locals ∧ mc ≤ R.cells ∧ ms ≤ R.slots) ∧ meth.sig.returnType = μ.2.2.2 ∧ meth.locks = false
def yP (D : va_G) (dC : Nat → ClassId) (ci h0 sz : Nat) (zs as : List Value) : Array Value → State → Prop := va_Pc (.ref h0 :: as) (fun U => U.heap.size = sz ∧ va_P D vwCl [(h0, .inr (ci, zs))] U.heap ∧ va_K D vwCl (yT dC) U ∧ (∀ v ∈ lw_nest, va_Nw v U) ∧ va_AO "PulledPanels$Lecture" U)
def yA (ci h0 sz : Nat) (zs : List Value) : Nat → Prop := va_A [(h0, .inr (ci, zs))] sz
def yQ (D : va_G) (dC : Nat → ClassId) (SH : List XSh) (σ : XSt) (A : Nat → Prop) (h0 : Nat) : Array Value → State → Outcome → State → Prop := va_Qv (fun f : Nat → Nat => f 0 = h0) (fun f t => va_P D vwCl (xW (f, SH, D, dC) σ) t.heap ∧ va_D A (xW (f, SH, D, dC) σ)) A
def yrm (d mc ms : Nat) : Room := { frames := d, cells := mc, slots := ms, locals := 34 * d }
def YM (l : Launch) (D : va_G) (dC : Nat → ClassId) (d mc ms ci : Nat) (μ : XMt) (zs as : List Value) (SH : List XSh) (σ : XSt) : Prop :=
  ∀ h0 sz, Met l μ.1 (xws μ) (yrm d mc ms) (yP D dC ci h0 sz zs as) (yQ D dC SH σ (yA ci h0 sz zs) h0) mc ms (yA ci h0 sz zs)
def YZ (mc ms : Nat) (w : XO) (D : va_G) (dC : Nat → ClassId) (h0 : Nat) (SH : List XSh) (σ : XSt) : Prop := match w with
  | (_, _, _, _, s, _, args, below, meth, _, A, _, _, Z) => Z = MQ below (yQ D dC SH σ A h0) args s mc ms A ∧ meth.name = "<init>"
theorem yr_entry {l : Launch} {D : va_G} {dC : Nat → ClassId} {d mc ms ci : Nat} {μ : XMt} {zs as : List Value} {SH : List XSh} {σ : XSt} (lv : Nat → List (Option Value)) (hy : plainName μ.1.cls = true) (hc : ∀ u ∈ as, u.category = 1) (hn : as.length + 1 ≤ μ.2.2.1) (hlv : ∀ h0, xent (.ref h0 :: as) μ.2.2.1 = lv h0) (hnm : μ.1.name = "<init>")
    (k : ∀ (h0 : Nat) (w : XO), w.2.1 = l → CY d mc ms w D dC μ → YZ mc ms w D dC h0 SH σ → YW w D [(h0, .inr (ci, zs))] 0 (lv h0) [] 0 0) : YM l D dC d mc ms ci μ zs as SH σ := by
  intro h0 sz
  obtain ⟨y, cc, n, ret⟩ := μ
  have hlv := hlv h0
  refine Met.ofW (cc := cc) (maxL := n) (ret := ret) hy rfl ?_
  intro p e s m args below meth c s₁ B hml hv
  obtain ⟨rfl, hsz, hP, hK, hN, hAO⟩ := hv
  have hx := B.exec
  have hb := B.bytes
  have hr := B.returns
  have hts := atoms_spec (ws := xws (y, cc, n, ret)) B.pre
  have hown : s.vm.findClass y.cls = some m.cls := findClass_of_methodNamed B.named
  have hlocks := B.notSynchronized
  have hin : meth.name = y.name := (name_of_methodNamed B.named B.method).1
  subst hsz
  rw [lg_entry_eq]
  have hcc : ∀ u ∈ (.ref h0 :: as : List Value), u.category = 1 := List.forall_mem_cons.mpr ⟨rfl, hc⟩
  refine k h0 (p, l, e, yrm d mc ms, s, m, (.ref h0 :: as).toArray, below, meth, c, yA ci h0 s.heap.size zs, 0, 0, MQ below (yQ D dC SH σ (yA ci h0 s.heap.size zs) h0) (.ref h0 :: as).toArray s mc ms (yA ci h0 s.heap.size zs)) rfl ?_ ⟨rfl, hin.trans hnm⟩ s.heap [] _ hP ?_ va_S.rf (by rw [← hlv]; exact xL_entry hcc hn)
  · exact ⟨hx, hb, hml, hown, fun v hv => hts v (List.mem_cons_of_mem _ hv), hN, hAO, hK, fun q hq => Or.inr hq, ⟨Nat.le_refl _, Nat.le_refl _, Nat.le_refl _, Nat.le_refl _⟩, hr, hlocks⟩
  · refine ⟨fun i j p q hi hj _ => ?_, fun k q hk => va_A.in hk⟩
    have h1 := (List.getElem?_eq_some_iff.mp hi).1
    have h2 := (List.getElem?_eq_some_iff.mp hj).1
    simp at h1 h2
    omega
section YR
variable {d mc ms : Nat} {w : XO} {D : va_G} {dC : Nat → ClassId} {μ : XMt} {world : va_W} {pc k n : Nat} {lv lr : List (Option Value)} {st r : List Value}
theorem yw_aload_0 {x : Nat} (cy : CY d mc ms w D dC μ) (hd : decode μ.2.1 pc = .ok (.aload_n 0, 1)) (kk : YW w D world (pc + 1) (some (.ref x) :: lr) (.ref x :: r) k n) : YW w D world pc (some (.ref x) :: lr) r k n := by
  obtain ⟨p, l, e, R, s, m, args, below, meth, c, A, cells, slots, Z⟩ := w
  intro H locs ls hP hD hS hl
  exact lv_aload_n cy.1 cy.2.1 hd rfl (hl.2.2 0 _ rfl).1 (kk H locs ls hP hD hS hl)
theorem yw_iconst {i : Int} {v : Int32} (cy : CY d mc ms w D dC μ) (hd : decode μ.2.1 pc = .ok (.iconst i, 1)) (hv : Int32.ofInt i = v) (kk : YW w D world (pc + 1) lv (.int v :: r) k n) : YW w D world pc lv r k n := by
  obtain ⟨p, l, e, R, s, m, args, below, meth, c, A, cells, slots, Z⟩ := w
  intro H locs ls hP hD hS hl
  exact lv_iconst cy.1 cy.2.1 hd hv (kk H locs ls hP hD hS hl)
theorem yw_bipush {i : Int} {v : Int32} (cy : CY d mc ms w D dC μ) (hd : decode μ.2.1 pc = .ok (.bipush i, 2)) (hv : (Int8.ofInt i).toInt32 = v) (kk : YW w D world (pc + 2) lv (.int v :: r) k n) : YW w D world pc lv r k n := by
  obtain ⟨p, l, e, R, s, m, args, below, meth, c, A, cells, slots, Z⟩ := w
  intro H locs ls hP hD hS hl
  exact lv_bipush cy.1 cy.2.1 hd hv (kk H locs ls hP hD hS hl)
theorem yw_sipush {i : Int} {v : Int32} (cy : CY d mc ms w D dC μ) (hd : decode μ.2.1 pc = .ok (.sipush i, 3)) (hv : (Int16.ofInt i).toInt32 = v) (kk : YW w D world (pc + 3) lv (.int v :: r) k n) : YW w D world pc lv r k n := by
  obtain ⟨p, l, e, R, s, m, args, below, meth, c, A, cells, slots, Z⟩ := w
  intro H locs ls hP hD hS hl
  exact lv_sipush cy.1 cy.2.1 hd hv (kk H locs ls hP hD hS hl)
theorem yw_iload_1 {a0 : Option Value} {x : Int32} (cy : CY d mc ms w D dC μ) (hd : decode μ.2.1 pc = .ok (.iload_n 1, 1)) (kk : YW w D world (pc + 1) (a0 :: some (.int x) :: lr) (.int x :: r) k n) : YW w D world pc (a0 :: some (.int x) :: lr) r k n := by
  obtain ⟨p, l, e, R, s, m, args, below, meth, c, A, cells, slots, Z⟩ := w
  intro H locs ls hP hD hS hl
  exact lv_iload_n cy.1 cy.2.1 hd rfl (hl.2.2 1 _ rfl).1 (kk H locs ls hP hD hS hl)
theorem yw_istore_1 {a0 b : Option Value} {x : Int32} (cy : CY d mc ms w D dC μ) (hd : decode μ.2.1 pc = .ok (.istore_n 1, 1)) (kk : YW w D world (pc + 1) (a0 :: some (.int x) :: lr) r k n) : YW w D world pc (a0 :: b :: lr) (.int x :: r) k n := by
  obtain ⟨p, l, e, R, s, m, args, below, meth, c, A, cells, slots, Z⟩ := w
  intro H locs ls hP hD hS hl
  have hi : 1 < (a0 :: b :: lr).length := by simp
  exact lv_istore_n cy.1 cy.2.1 hd rfl (xL_has hl) hi rfl (fun ls' hl' => kk H locs ls' hP hD hS (xL_set hl hi rfl hl'))
theorem yw_astore_1 {a0 b : Option Value} {x : Nat} (cy : CY d mc ms w D dC μ) (hd : decode μ.2.1 pc = .ok (.astore_n 1, 1)) (kk : YW w D world (pc + 1) (a0 :: some (.ref x) :: lr) r k n) : YW w D world pc (a0 :: b :: lr) (.ref x :: r) k n := by
  obtain ⟨p, l, e, R, s, m, args, below, meth, c, A, cells, slots, Z⟩ := w
  intro H locs ls hP hD hS hl
  have hi : 1 < (a0 :: b :: lr).length := by simp
  exact lv_astore_n cy.1 cy.2.1 hd rfl (xL_has hl) hi rfl (fun ls' hl' => kk H locs ls' hP hD hS (xL_set hl hi rfl hl'))
theorem yw_astore_2 {a0 a1 b : Option Value} {x : Nat} (cy : CY d mc ms w D dC μ) (hd : decode μ.2.1 pc = .ok (.astore_n 2, 1)) (kk : YW w D world (pc + 1) (a0 :: a1 :: some (.ref x) :: lr) r k n) : YW w D world pc (a0 :: a1 :: b :: lr) (.ref x :: r) k n := by
  obtain ⟨p, l, e, R, s, m, args, below, meth, c, A, cells, slots, Z⟩ := w
  intro H locs ls hP hD hS hl
  have hi : 2 < (a0 :: a1 :: b :: lr).length := by simp
  exact lv_astore_n cy.1 cy.2.1 hd rfl (xL_has hl) hi rfl (fun ls' hl' => kk H locs ls' hP hD hS (xL_set hl hi rfl hl'))
theorem yw_iinc_1 {a0 : Option Value} {x y : Int32} {i : Int} (cy : CY d mc ms w D dC μ) (hd : decode μ.2.1 pc = .ok (.iinc 1 i, 3)) (hv : Int32.ofInt i = y) (kk : YW w D world (pc + 3) (a0 :: some (.int (x + y)) :: lr) r k n) : YW w D world pc (a0 :: some (.int x) :: lr) r k n := by
  obtain ⟨p, l, e, R, s, m, args, below, meth, c, A, cells, slots, Z⟩ := w
  intro H locs ls hP hD hS hl
  have hi : 1 < (a0 :: some (Value.int x) :: lr).length := by simp
  obtain ⟨q, hq⟩ := List.getElem?_of_mem ((xlp_iff (a0 :: some (Value.int x) :: lr) 0 1 (.int x)).mpr ⟨Nat.zero_le _, rfl⟩)
  exact lv_iinc cy.1 cy.2.1 hd (xL_has hl) hq (by rw [hv]) hi rfl (fun ls' hl' => kk H locs ls' hP hD hS (xL_set hl hi rfl hl'))
theorem yw_goto {off : Int} {tgt : Nat} (cy : CY d mc ms w D dC μ) (hd : decode μ.2.1 pc = .ok (.goto off, 3)) (ht : (pc : Int) + off = (tgt : Int)) (kk : YW w D world tgt lv r k n) : YW w D world pc lv r k n := by
  obtain ⟨p, l, e, R, s, m, args, below, meth, c, A, cells, slots, Z⟩ := w
  intro H locs ls hP hD hS hl
  exact lv_goto cy.1 cy.2.1 hd ht (kk H locs ls hP hD hS hl)
theorem yw_icmp_ge {x y : Int32} {off : Int} {tgt : Nat} (cy : CY d mc ms w D dC μ) (hd : decode μ.2.1 pc = .ok (.if_icmp .ge off, 3)) (ht : (pc : Int) + off = (tgt : Int)) (kt : y ≤ x → YW w D world tgt lv r k n) (kf : ¬ y ≤ x → YW w D world (pc + 3) lv r k n) : YW w D world pc lv (.int y :: .int x :: r) k n := by
  obtain ⟨p, l, e, R, s, m, args, below, meth, c, A, cells, slots, Z⟩ := w
  intro H locs ls hP hD hS hl
  exact lv_icmp_ge cy.1 cy.2.1 hd ht (fun q => kt q H locs ls hP hD hS hl) (fun q => kf q H locs ls hP hD hS hl)
theorem yw_mmax {idx : Nat} {x y : Int32} (cy : CY (d + 1) mc ms w D dC μ) (hd : decode μ.2.1 pc = .ok (.invokestatic idx, 3)) (hlv : lv.length = μ.2.2.1) (hlk : Cond.methodLink μ.1.cls idx Lib.Math.max.name ∈ lw_good) (hr : (r.map fun v => v.category).sum ≤ 8) (hk : k ≤ mc) (hn : n ≤ ms) (kk : YW w D world (pc + 3) lv (.int (if x < y then y else x) :: r) k n) : YW w D world pc lv (.int y :: .int x :: r) k n := by
  obtain ⟨p, l, e, R, s, m, args, below, meth, c, A, cells, slots, Z⟩ := w
  intro H locs ls hP hD hS hl
  obtain ⟨hx, hb, hml, hown, hts, -, -, -, -, ⟨h1, h2, h3, h4⟩, -, -⟩ := cy
  exact va_mmax hx hb (by rw [hml, hl.1]; exact hlv.symm) hown (hts _ hlk) (hts _ x_maxS) (hts _ x_mathI) (hts _ x_maxC) (by omega) (by omega) (Nat.le_trans hk h3) (Nat.le_trans hn h4) hd (kk H locs ls hP hD hS hl)
theorem y_objS : Cond.instanceMethod Lib.objectInit ∈ lw_good := x_good 23 (by decide +kernel) rfl
theorem y_objC : Cond.code Lib.objectInit ⟨#[0xb1]⟩ 1 none ∈ lw_good := x_good 24 (by decide +kernel) rfl
theorem yw_obj {idx : Nat} {x : Nat} (cy : CY (d + 1) mc ms w D dC μ) (hd : decode μ.2.1 pc = .ok (.invokespecial idx, 3)) (hlv : lv.length = μ.2.2.1) (hlk : Cond.methodLink μ.1.cls idx Lib.objectInit ∈ lw_good) (hr : (r.map fun v => v.category).sum ≤ 8) (kk : YW w D world (pc + 3) lv r k n) : YW w D world pc lv (.ref x :: r) k n := by
  obtain ⟨p, l, e, R, s, m, args, below, meth, c, A, cells, slots, Z⟩ := w
  intro H locs ls hP hD hS hl
  obtain ⟨hx, hb, hml, hown, hts, -, -, -, -, ⟨h1, h2, h3, h4⟩, -, -⟩ := cy
  refine W.objInit hx hb hown (hts _ hlk) (hts _ y_objS) (hts _ y_objC) rfl (by rw [hml]; exact hl.1.trans hlv) rfl hd (by omega) (by show 2 * 0 + (r.map fun v => v.category).sum + 12 ≤ _; omega) (kk H locs ls hP hD hS hl)
end YR
