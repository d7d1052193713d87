def bt (x : Int32) (i : Nat) : Bool := x.toBitVec.getLsbD i
theorem b_ext {x y : Int32} (h : ∀ i, i < 32 → bt x i = bt y i) : x = y := Int32.toBitVec_inj.mp (BitVec.eq_of_getLsbD_eq (fun i hi => h i hi))
theorem b_or (x y : Int32) (i : Nat) : bt (x ||| y) i = (bt x i || bt y i) := by unfold bt; rw [Int32.toBitVec_or, BitVec.getLsbD_or]
theorem b_and (x y : Int32) (i : Nat) : bt (x &&& y) i = (bt x i && bt y i) := by unfold bt; rw [Int32.toBitVec_and, BitVec.getLsbD_and]
theorem b_xor (x y : Int32) (i : Nat) : bt (x ^^^ y) i = (bt x i ^^ bt y i) := by unfold bt; rw [Int32.toBitVec_xor, BitVec.getLsbD_xor]
theorem b_big {x : Int32} {i : Nat} (h : 32 ≤ i) : bt x i = false := BitVec.getLsbD_of_ge _ _ h
theorem b_255 (i : Nat) : bt 255 i = decide (i < 8) := by
  rcases Nat.lt_or_ge i 32 with h | h
  · exact (by decide +kernel : ∀ i, i < 32 → bt 255 i = decide (i < 8)) i h
  · rw [b_big h, decide_eq_false (by omega)]
theorem b_65535 (i : Nat) : bt 65535 i = decide (i < 16) := by
  rcases Nat.lt_or_ge i 32 with h | h
  · exact (by decide +kernel : ∀ i, i < 32 → bt 65535 i = decide (i < 16)) i h
  · rw [b_big h, decide_eq_false (by omega)]
theorem b_m1 : ∀ i, i < 32 → bt (-1) i = true := by decide +kernel
theorem b_0 (i : Nat) : bt 0 i = false := BitVec.getLsbD_zero
theorem s_l : ∀ n, n < 32 → ((nI n &&& 31).toBitVec.smod 32).toNat = n := by decide +kernel
theorem s_u : ∀ n, n < 32 → (((nI n).toUInt32 &&& Int32.toUInt32 31).toBitVec % 32).toNat = n := by decide +kernel
theorem b_shl (n : Nat) (hn : n < 32) (x : Int32) {i : Nat} (hi : i < 32) : bt (x <<< (nI n &&& 31)) i = (decide (n ≤ i) && bt x (i - n)) := by
  unfold bt
  rw [Int32.toBitVec_shiftLeft]
  show (x.toBitVec <<< ((nI n &&& 31).toBitVec.smod 32).toNat).getLsbD i = _
  rw [s_l n hn, BitVec.getLsbD_shiftLeft]
  rcases Nat.lt_or_ge i n with h | h
  · simp [h, Nat.not_le.mpr h]
  · simp [hi, h, Nat.not_lt.mpr h]
theorem b_ushr (n : Nat) (hn : n < 32) (x : Int32) (i : Nat) : bt ((x.toUInt32 >>> ((nI n).toUInt32 &&& Int32.toUInt32 31)).toInt32) i = bt x (n + i) := by
  show (x.toUInt32 >>> ((nI n).toUInt32 &&& Int32.toUInt32 31)).toBitVec.getLsbD i = x.toUInt32.toBitVec.getLsbD (n + i)
  rw [UInt32.toBitVec_shiftRight]
  show (x.toUInt32.toBitVec >>> (((nI n).toUInt32 &&& Int32.toUInt32 31).toBitVec % 32).toNat).getLsbD i = _
  rw [s_u n hn, BitVec.getLsbD_ushiftRight]
theorem b_sshr (n : Nat) (hn : n < 32) (x : Int32) {i : Nat} (hi : i < 32) : bt (x >>> (nI n &&& 31)) i = if n + i < 32 then bt x (n + i) else bt x 31 := by
  unfold bt
  rw [Int32.toBitVec_shiftRight]
  show (x.toBitVec.sshiftRight ((nI n &&& 31).toBitVec.smod 32).toNat).getLsbD i = _
  rw [s_l n hn, BitVec.getLsbD_sshiftRight, BitVec.msb_eq_getLsbD_last]
  simp [hi]
/-! loops as iteration: it f n i x does f i, f (i + 1) .. n times -/
def xit {α : Type} (f : Nat → α → α) : Nat → Nat → α → α
  | 0, _, x => x
  | n + 1, i, x => xit f n (i + 1) (f i x)
theorem xit_succ {α : Type} (f : Nat → α → α) (n i : Nat) (x : α) : xit f (n + 1) i x = xit f n (i + 1) (f i x) := rfl
theorem xit_add {α : Type} (f : Nat → α → α) : ∀ (m n i : Nat) (x : α), xit f (m + n) i x = xit f n (i + m) (xit f m i x)
  | 0, n, i, x => by simp [xit]
  | m + 1, n, i, x => by
    rw [show m + 1 + n = (m + n) + 1 by omega, xit_succ, xit_succ, xit_add f m n (i + 1)]
    rw [show i + 1 + m = i + (m + 1) by omega]
theorem xit_last {α : Type} (f : Nat → α → α) (n i : Nat) (x : α) : xit f (n + 1) i x = f (i + n) (xit f n i x) := by
  rw [xit_add f n 1 i x]; rfl
theorem xit_cong {α : Type} {f g : Nat → α → α} : ∀ (n i : Nat) (x : α), (∀ k y, i ≤ k → k < i + n → f k y = g k y) → xit f n i x = xit g n i x
  | 0, _, _, _ => rfl
  | n + 1, i, x, h => by
    rw [xit_succ, xit_succ, h i x (Nat.le_refl _) (by omega)]
    exact xit_cong n (i + 1) _ (fun k y h1 h2 => h k y (by omega) (by omega))
theorem xit_id {α : Type} {f : Nat → α → α} : ∀ (n i : Nat) (x : α), (∀ k y, i ≤ k → k < i + n → f k y = y) → xit f n i x = x
  | 0, _, _, _ => rfl
  | n + 1, i, x, h => by
    rw [xit_succ, h i x (Nat.le_refl _) (by omega)]
    exact xit_id n (i + 1) _ (fun k y h1 h2 => h k y (by omega) (by omega))
theorem xit_inv {α : Type} {f : Nat → α → α} (I : Nat → α → Prop) : ∀ (n i : Nat) (x : α), I i x → (∀ k y, i ≤ k → k < i + n → I k y → I (k + 1) (f k y)) → I (i + n) (xit f n i x)
  | 0, _, _, h, _ => h
  | n + 1, i, x, h, hs => by
    rw [xit_succ, show i + (n + 1) = i + 1 + n by omega]
    exact xit_inv I n (i + 1) _ (hs i x (Nat.le_refl _) (by omega) h) (fun k y h1 h2 => hs k y (by omega) (by omega))
/-! the first place from i on, among n, where p holds -/
def xfst (p : Nat → Bool) : Nat → Nat → Option Nat
  | 0, _ => none
  | n + 1, i => if p i then some i else xfst p n (i + 1)
theorem xfst_some {p : Nat → Bool} : ∀ {n i k : Nat}, xfst p n i = some k → i ≤ k ∧ k < i + n ∧ p k = true
  | 0, _, _, h => by simp [xfst] at h
  | n + 1, i, k, h => by
    rw [xfst] at h
    by_cases hp : p i = true
    · rw [if_pos hp] at h
      cases h
      exact ⟨Nat.le_refl _, by omega, hp⟩
    · rw [if_neg hp] at h
      obtain ⟨h1, h2, h3⟩ := xfst_some h
      exact ⟨by omega, by omega, h3⟩
theorem xfst_none {p : Nat → Bool} : ∀ {n i : Nat}, xfst p n i = none ↔ ∀ k, i ≤ k → k < i + n → p k = false
  | 0, i => by simp [xfst]; intro k h1 h2; omega
  | n + 1, i => by
    rw [xfst]
    by_cases hp : p i = true
    · rw [if_pos hp]
      constructor
      · intro h; cases h
      · intro h; rw [h i (Nat.le_refl _) (by omega)] at hp; cases hp
    · rw [if_neg hp, xfst_none]
      constructor
      · intro h k h1 h2
        by_cases hk : k = i
        · subst hk; simpa using hp
        · exact h k (by omega) (by omega)
      · intro h k h1 h2
        exact h k (by omega) (by omega)
theorem xfst_cong {p q : Nat → Bool} : ∀ (n i : Nat), (∀ k, i ≤ k → k < i + n → p k = q k) → xfst p n i = xfst q n i
  | 0, _, _ => rfl
  | n + 1, i, h => by
    rw [xfst, xfst, h i (Nat.le_refl _) (by omega), xfst_cong n (i + 1) (fun k h1 h2 => h k (by omega) (by omega))]
theorem upd_same (f : Nat → Int32) (k : Nat) (x : Int32) : upd f k x k = x := by simp [upd]
theorem upd_ne (f : Nat → Int32) {k j : Nat} (x : Int32) (h : j ≠ k) : upd f k x j = f j := by simp [upd, h]
theorem su_id (σ : XSt) (k : Nat) : su σ k (σ k) = σ := by
  funext c; unfold su; split
  · subst_vars; rfl
  · rfl
theorem su_su (σ : XSt) (k : Nat) (f g : Nat → Int32) : su (su σ k f) k g = su σ k g := by
  funext c; unfold su; split <;> simp_all
theorem su_comm (σ : XSt) {k c : Nat} (f g : Nat → Int32) (h : k ≠ c) : su (su σ k f) c g = su (su σ c g) k f := by
  funext x; unfold su
  by_cases h1 : x = c <;> by_cases h2 : x = k <;> simp_all
/-! one bit -/
theorem b_one (i : Nat) : bt 1 i = decide (i = 0) := by
  rcases Nat.lt_or_ge i 32 with h | h
  · exact (by decide +kernel : ∀ i, i < 32 → bt 1 i = decide (i = 0)) i h
  · rw [b_big h]; simp; omega
theorem b_bit {s : Nat} (hs : s < 32) {i : Nat} (hi : i < 32) : bt ((1 : Int32) <<< (nI s &&& 31)) i = decide (i = s) := by
  rw [b_shl s hs 1 hi, b_one]
  by_cases h : i = s
  · subst h; simp
  · by_cases h2 : s ≤ i
    · simp [h2, h]; omega
    · simp [h2, h]
theorem b_tst {x : Int32} {s : Nat} (hs : s < 32) : x &&& ((1 : Int32) <<< (nI s &&& 31)) = 0 ↔ bt x s = false := by
  constructor
  · intro h
    have := congrArg (fun y => bt y s) h
    simp only [b_and, b_bit hs hs, b_0] at this
    simpa using this
  · intro h
    apply b_ext
    intro i hi
    rw [b_and, b_bit hs hi, b_0]
    by_cases e : i = s
    · subst e; simp [h]
    · simp [e]
theorem b_shr1 {x : Int32} {s : Nat} (hs : s < 32) : (x >>> (nI s &&& 31)) &&& 1 = if bt x s then 1 else 0 := by
  apply b_ext
  intro i hi
  rw [b_and, b_one, b_sshr s hs x hi]
  by_cases e : i = 0
  · subst e
    simp [hs]
    by_cases hb : bt x s = true
    · simp [hb, b_one]
    · simp [hb, b_0]
  · simp [e]
    split
    · rw [b_one]; simp [e]
    · rw [b_0]
theorem b_shr1T {x : Int32} {s : Nat} (hs : s < 32) : (x >>> (nI s &&& 31)) &&& 1 = 1 ↔ bt x s = true := by
  rw [b_shr1 hs]
  by_cases hb : bt x s = true
  · simp [hb]
  · simp [hb]
theorem b_not (x : Int32) {i : Nat} (hi : i < 32) : bt (x ^^^ (-1)) i = !bt x i := by rw [b_xor, b_m1 i hi]; simp
/-! answers that are equal -/
theorem q_i {Q : Int32 → XSt → Prop} {a b : Int32} {σ : XSt} (h : Q a σ) (e : b = a) : Q b σ := e ▸ h
theorem q_s {Q : XSt → Prop} {σ τ : XSt} (h : Q σ) (e : τ = σ) : Q τ := e ▸ h
theorem q_is {Q : Int32 → XSt → Prop} {a b : Int32} {σ τ : XSt} (h : Q a σ) (e : b = a) (e2 : τ = σ) : Q b τ := e ▸ e2 ▸ h
theorem q_g {w : XO} {E : XEnv} {pc : Nat} {lv : List (Option Value)} {st : List Value} {σ τ : XSt} (h : XG w E pc lv st σ) (e : τ = σ) : XG w E pc lv st τ := e ▸ h
theorem q_g2 {w : XO} {E : XEnv} {pc : Nat} {lv lv2 : List (Option Value)} {st st2 : List Value} {σ τ : XSt} (h : XG w E pc lv st σ) (e1 : lv2 = lv) (e2 : st2 = st) (e : τ = σ) : XG w E pc lv2 st2 τ := e ▸ e1 ▸ e2 ▸ h
/-! beyond an array's end the row says nothing -/
theorem xP_row {E : XEnv} {σ : XSt} {k t n : Nat} {f : Nat → Int32} {H : Heap} (hs : E.2.1[k]? = some (.inr (.inl (t, n)))) (h : ∀ j, j < n → f j = σ k j) (hP : va_P E.2.2.1 vwCl (xW E σ) H) : va_P E.2.2.1 vwCl (xW E (su σ k f)) H := by
  intro i q hi
  by_cases e : i = k
  · subst e
    rw [xW_get hs, su_same] at hi
    cases hi
    have h1 := hP i _ (xW_get hs)
    have h2 : arrV (E.2.2.2 t) n (fun j => .int (f j)) = arrV (E.2.2.2 t) n (fun j => .int (σ i j)) := by
      unfold arrV
      congr 1
      apply congrArg
      funext j
      show Value.int (f j.val) = Value.int (σ i j.val)
      rw [h j.val j.isLt]
    show H[_]? = some (vp_cell _ _)
    rw [vp_cell_i, h2]
    exact h1
  · refine hP i q ?_
    rw [← hi]
    simp only [xW, List.getElem?_mapIdx, su_ne σ f e]
theorem xr_row {w : XO} {E : XEnv} {pc : Nat} {lv : List (Option Value)} {st : List Value} {σ : XSt} {k t n : Nat} (f : Nat → Int32) (hs : E.2.1[k]? = some (.inr (.inl (t, n)))) (h : ∀ j, j < n → f j = σ k j) (kk : XG w E pc lv st (su σ k f)) : XG w E pc lv st σ := by
  obtain ⟨p, l, e, R, s, m, args, below, meth, c, A, cells, slots, Z⟩ := w
  intro H locs ls hP hS hl
  exact kk H locs ls (xP_row hs h hP) hS hl
/-! small ints -/
theorem nI_inj {a b : Nat} (ha : a < 2 ^ 31) (hb : b < 2 ^ 31) (h : nI a = nI b) : a = b := (nI_eq ha hb).mp h
theorem vp_nI {n N : Nat} {x : Int32} (e : x = nI n) (h : n < N) (hN : N < 2 ^ 31) : vp_in x N := by rw [e]; exact vp_in_nI h hN
theorem cl_nI {n : Nat} {x : Int32} (e : x = nI n) (h : n < 2 ^ 31) : x.toNatClampNeg = n := by rw [e]; exact nI_clamp h
theorem x_cmp {i : Int32} {n : Nat} (h : ¬ i < 0) (hn : n < 2 ^ 31) : nI n ≤ i ↔ n ≤ i.toNatClampNeg := by
  obtain ⟨j, hj, rfl⟩ := nI_of h
  rw [nI_leI hn hj, nI_clamp hj]
