theorem y_app_l {α : Type} {a b : List α} {i : Nat} {q : α} (h : a[i]? = some q) : (a ++ b)[i]? = some q := by
  rw [List.getElem?_append_left (List.getElem?_eq_some_iff.mp h).1]
  exact h
theorem y_app_r {α : Type} {a b : List α} {i : Nat} {q : α} (h : b[i]? = some q) : (a ++ b)[a.length + i]? = some q := by
  rw [List.getElem?_append_right (by omega), Nat.add_sub_cancel_left]
  exact h
theorem y_join {A0 : Nat → Prop} {D : va_G} {pre wc w1 : va_W} {H H1 : Heap} (hP : va_P D vwCl (pre ++ wc) H) (hD : va_D A0 (pre ++ wc)) (hk : ∀ q : Nat, q < H.size → ¬ va_A wc H.size q → H1[q]? = H[q]?) (hF : ∀ q, va_A wc H.size q → A0 q) (hP1 : va_P D vwCl w1 H1) (hD1 : va_D (va_A wc H.size) w1) : va_P D vwCl (pre ++ w1) H1 ∧ va_D A0 (pre ++ w1) := by
  have apart : ∀ (k : Nat) (q : Nat × va_E), pre[k]? = some q → q.1 < H.size ∧ ¬ va_A wc H.size q.1 := by
    intro k q hq
    have hl := (hP k q (y_app_l hq)).lt
    refine ⟨hl, fun h => ?_⟩
    rcases h with ⟨k2, e, h⟩ | h
    · have hij := hD.1 k (pre.length + k2) q (q.1, e) (y_app_l hq) (y_app_r h) rfl
      have := (List.getElem?_eq_some_iff.mp hq).1
      omega
    · omega
  refine ⟨va_P.app (fun k q hq => ?_) hP1, va_D.app ⟨fun i j p q hi hj h => hD.1 i j p q (y_app_l hi) (y_app_l hj) h, fun k q hq => hD.2 k q (y_app_l hq)⟩ (hD1.weaken (fun k q _ h => hF q.1 h)) (fun i j x y hx hy hxy => ?_)⟩
  · obtain ⟨g1, g2⟩ := apart k q hq
    exact (hP k q (y_app_l hq)).kept (hk q.1 g1 g2)
  · exact (apart i x hx).2 (by rw [hxy]; exact hD1.2 j y hy)
def okF (n : Nat) (q : Option Nat) : Bool := match q with
  | some t => decide (t < n)
  | none => true
def okS (n : Nat) : XSh → Bool
  | .inl (_, fs) => fs.all (okF n)
  | .inr (.inl _) => true
  | .inr (.inr ts) => ts.all (fun t => decide (t < n))
def shS (n : Nat) : XSh → XSh
  | .inl (c, fs) => .inl (c, fs.map (Option.map (n + ·)))
  | .inr (.inl a) => .inr (.inl a)
  | .inr (.inr ts) => .inr (.inr (ts.map (n + ·)))
def fap (n : Nat) (f g : Nat → Nat) : Nat → Nat := fun k => if k < n then f k else g (k - n)
def sap (n : Nat) (σ τ : XSt) : XSt := fun k => if k < n then σ k else τ (k - n)
theorem fap_l {n : Nat} {f g : Nat → Nat} {k : Nat} (h : k < n) : fap n f g k = f k := if_pos h
theorem fap_r {n : Nat} {f g : Nat → Nat} {k : Nat} : fap n f g (n + k) = g k := by
  unfold fap
  rw [if_neg (by omega), Nat.add_sub_cancel_left]
theorem xcell_congr {f g : Nat → Nat} {S S2 : List XSh} {D : va_G} {dC : Nat → ClassId} {row : Nat → Int32} {s : XSh} {n : Nat} (ok : okS n s = true) (h : ∀ k, k < n → f k = g k) : xcell (f, S, D, dC) row s = xcell (g, S2, D, dC) row s := by
  rcases s with ⟨c, fs⟩ | ⟨a⟩ | ts
  · show Sum.inr _ = Sum.inr _
    congr 2
    apply List.ext_getElem?
    intro i
    simp only [xvals, List.getElem?_mapIdx]
    cases hi : fs[i]? with
    | none => rfl
    | some q =>
      have := List.all_eq_true.mp ok q (List.mem_of_getElem? hi)
      cases q with
      | none => rfl
      | some t =>
        have ht : t < n := by simpa [okF] using this
        show some (Value.ref (f t)) = some (Value.ref (g t))
        rw [h t ht]
  · rfl
  · show Sum.inl _ = Sum.inl _
    congr 7
    funext j
    cases hi : ts[j]? with
    | none => rfl
    | some t =>
      have := List.all_eq_true.mp ok t (List.mem_of_getElem? hi)
      have ht : t < n := by simpa using this
      show some (f t) = some (g t)
      rw [h t ht]
theorem xcell_sh {f g : Nat → Nat} {S S2 : List XSh} {D : va_G} {dC : Nat → ClassId} {row : Nat → Int32} {s : XSh} {n : Nat} (h : ∀ k, f (n + k) = g k) : xcell (f, S, D, dC) row (shS n s) = xcell (g, S2, D, dC) row s := by
  rcases s with ⟨c, fs⟩ | ⟨a⟩ | ts
  · show Sum.inr _ = Sum.inr _
    congr 2
    apply List.ext_getElem?
    intro i
    simp only [xvals, List.getElem?_mapIdx, List.getElem?_map]
    cases hi : fs[i]? with
    | none => rfl
    | some q =>
      cases q with
      | none => rfl
      | some t =>
        show some (Value.ref (f (n + t))) = some (Value.ref (g t))
        rw [h t]
  · rfl
  · show Sum.inl _ = Sum.inl _
    simp only [List.length_map]
    congr 7
    funext j
    simp only [List.getElem?_map]
    cases hi : ts[j]? with
    | none => rfl
    | some t =>
      show some (f (n + t)) = some (g t)
      rw [h t]
theorem xW_app {f g : Nat → Nat} {SH S2 : List XSh} {D : va_G} {dC : Nat → ClassId} {σ τ : XSt} (ok : SH.all (okS SH.length) = true) : xW (f, SH, D, dC) σ ++ xW (g, S2, D, dC) τ = xW (fap SH.length f g, SH ++ S2.map (shS SH.length), D, dC) (sap SH.length σ τ) := by
  have hlen : (xW (f, SH, D, dC) σ).length = SH.length := xW_len _ _
  apply List.ext_getElem?
  intro i
  by_cases hi : i < SH.length
  · rw [List.getElem?_append_left (by rw [hlen]; exact hi)]
    have hs : SH[i]? = some SH[i] := List.getElem?_eq_getElem hi
    rw [xW_get (E := (f, SH, D, dC)) hs, xW_get (E := (fap SH.length f g, SH ++ S2.map (shS SH.length), D, dC)) (show (SH ++ S2.map (shS SH.length))[i]? = some SH[i] from y_app_l hs)]
    show some (f i, _) = some (fap SH.length f g i, _)
    rw [fap_l hi, show sap SH.length σ τ i = σ i from if_pos hi]
    rw [xcell_congr (g := fap SH.length f g) (S2 := SH ++ S2.map (shS SH.length)) (List.all_eq_true.mp ok _ (List.mem_of_getElem? hs)) (fun k hk => (fap_l hk).symm)]
  · obtain ⟨j, rfl⟩ : ∃ j, i = SH.length + j := ⟨i - SH.length, by omega⟩
    rw [List.getElem?_append_right (by omega), hlen, Nat.add_sub_cancel_left]
    cases hs : S2[j]? with
    | none =>
      have h1 : S2.length ≤ j := List.getElem?_eq_none_iff.mp hs
      rw [List.getElem?_eq_none_iff.mpr (by rw [xW_len]; exact h1), List.getElem?_eq_none_iff.mpr (by rw [xW_len]; simp; omega)]
    | some s =>
      rw [xW_get (E := (g, S2, D, dC)) hs, xW_get (E := (fap SH.length f g, SH ++ S2.map (shS SH.length), D, dC)) (show (SH ++ S2.map (shS SH.length))[SH.length + j]? = some (shS SH.length s) from y_app_r (by rw [List.getElem?_map, hs]; rfl))]
      show some (g j, _) = some (fap SH.length f g (SH.length + j), _)
      rw [fap_r, show sap SH.length σ τ (SH.length + j) = τ j by unfold sap; rw [if_neg (by omega), Nat.add_sub_cancel_left]]
      rw [xcell_sh (f := fap SH.length f g) (g := g) (S2 := S2) (fun k => fap_r)]
def fcons (h : Nat) (f : Nat → Nat) : Nat → Nat
  | 0 => h
  | k + 1 => f k
def scons (row : Nat → Int32) (σ : XSt) : XSt
  | 0 => row
  | k + 1 => σ k
abbrev YV : Type := Option (Int32 ⊕ Nat)
def yval (f : Nat → Nat) : YV → Value
  | none => .null
  | some (.inl x) => .int x
  | some (.inr k) => .ref (f k)
def yfld : YV → Option Nat
  | some (.inr k) => some (k + 1)
  | _ => none
def yint : YV → Int32
  | some (.inl x) => x
  | _ => 0
def yrow (cs : List YV) : Nat → Int32 := fun j => yint ((cs[j]?).getD none)
def ySH (ci : Nat) (cs : List YV) (SH : List XSh) : List XSh := .inl (ci, cs.map yfld) :: SH.map (shS 1)
theorem xW_cons {h0 ci : Nat} {f : Nat → Nat} {cs : List YV} {SH : List XSh} {D : va_G} {dC : Nat → ClassId} {σ : XSt} (hn : cs.all (fun c => c.isSome) = true) : (h0, .inr (ci, cs.map (yval f))) :: xW (f, SH, D, dC) σ = xW (fcons h0 f, ySH ci cs SH, D, dC) (scons (yrow cs) σ) := by
  apply List.ext_getElem?
  intro i
  cases i with
  | zero =>
    rw [xW_get (E := (fcons h0 f, ySH ci cs SH, D, dC)) (s := .inl (ci, cs.map yfld)) rfl]
    show some (h0, _) = some (h0, _)
    congr 1
    show (h0, Sum.inr (ci, cs.map (yval f))) = (h0, Sum.inr (ci, xvals (fcons h0 f) (yrow cs) (cs.map yfld)))
    congr 3
    apply List.ext_getElem?
    intro j
    simp only [xvals, List.getElem?_mapIdx, List.getElem?_map]
    cases hj : cs[j]? with
    | none => rfl
    | some c =>
      have := List.all_eq_true.mp hn c (List.mem_of_getElem? hj)
      cases c with
      | none => cases this
      | some v =>
        cases v with
        | inl x =>
          show some (Value.int x) = some (Value.int (yrow cs j))
          unfold yrow
          rw [hj]
          rfl
        | inr k => rfl
  | succ i =>
    rw [List.getElem?_cons_succ]
    cases hs : SH[i]? with
    | none =>
      have h1 : SH.length ≤ i := List.getElem?_eq_none_iff.mp hs
      rw [List.getElem?_eq_none_iff.mpr (by rw [xW_len]; exact h1), List.getElem?_eq_none_iff.mpr (by rw [xW_len]; simp [ySH]; omega)]
    | some s =>
      rw [xW_get (E := (f, SH, D, dC)) hs, xW_get (E := (fcons h0 f, ySH ci cs SH, D, dC)) (show (ySH ci cs SH)[i + 1]? = some (shS 1 s) from by unfold ySH; rw [List.getElem?_cons_succ, List.getElem?_map, hs]; rfl)]
      show some (f i, _) = some (f i, _)
      rw [xcell_sh (f := fcons h0 f) (g := f) (S2 := SH) (fun k => by rw [Nat.add_comm]; rfl)]
      rfl
theorem yval_ap {n : Nat} {f g : Nat → Nat} {cs : List YV} (ok : cs.all (fun c => okF n (match c with | some (.inr k) => some k | _ => none)) = true) : cs.map (yval (fap n f g)) = cs.map (yval f) := by
  apply List.map_congr_left
  intro c hc
  have := List.all_eq_true.mp ok c hc
  rcases c with _ | x | k
  · rfl
  · rfl
  · have hk : k < n := by simpa [okF] using this
    show Value.ref _ = Value.ref _
    rw [fap_l hk]
