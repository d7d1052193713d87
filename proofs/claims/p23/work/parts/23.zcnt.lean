/-! PURE MATHEMATICS OF THE LAW: counts and sums -/
/-- how many of the first n places hold -/
def zc (f : Nat → Bool) : Nat → Nat
  | 0 => 0
  | n + 1 => zc f n + (if f n = true then 1 else 0)
def zs (f : Nat → Nat) : Nat → Nat
  | 0 => 0
  | n + 1 => zs f n + f n
theorem zc_le (f : Nat → Bool) : ∀ n, zc f n ≤ n
  | 0 => Nat.le_refl _
  | n + 1 => by
    have := zc_le f n
    rw [zc]
    split <;> omega
theorem zc_cong {f g : Nat → Bool} : ∀ n, (∀ k, k < n → f k = g k) → zc f n = zc g n
  | 0, _ => rfl
  | n + 1, h => by rw [zc, zc, zc_cong n (fun k hk => h k (by omega)), h n (by omega)]
theorem zc_false {f : Nat → Bool} : ∀ n, (∀ k, k < n → f k = false) → zc f n = 0
  | 0, _ => rfl
  | n + 1, h => by rw [zc, zc_false n (fun k hk => h k (by omega)), h n (by omega)]; rfl
theorem zc_more {f : Nat → Bool} {m : Nat} : ∀ n, (∀ k, m ≤ k → k < m + n → f k = false) → zc f (m + n) = zc f m
  | 0, _ => rfl
  | n + 1, h => by
    rw [show m + (n + 1) = (m + n) + 1 by omega, zc, zc_more n (fun k h1 h2 => h k h1 (by omega)), h (m + n) (by omega) (by omega)]
    simp
theorem zc_pos {f : Nat → Bool} {k : Nat} (h : f k = true) : ∀ n, k < n → 0 < zc f n
  | 0, hk => absurd hk (Nat.not_lt_zero _)
  | n + 1, hk => by
    rw [zc]
    by_cases e : k = n
    · subst e; rw [if_pos h]; omega
    · have := zc_pos h n (by omega); omega
theorem zc_front (f : Nat → Bool) : ∀ n, zc f (n + 1) = (if f 0 = true then 1 else 0) + zc (fun k => f (k + 1)) n
  | 0 => by simp [zc]
  | n + 1 => by rw [zc, zc_front f n, zc]; omega
theorem zs_cong {f g : Nat → Nat} : ∀ n, (∀ k, k < n → f k = g k) → zs f n = zs g n
  | 0, _ => rfl
  | n + 1, h => by rw [zs, zs, zs_cong n (fun k hk => h k (by omega)), h n (by omega)]
theorem zs_add (f g : Nat → Nat) : ∀ n, zs (fun k => f k + g k) n = zs f n + zs g n
  | 0 => rfl
  | n + 1 => by rw [zs, zs, zs, zs_add f g n]; omega
theorem zs_zc (f : Nat → Bool) : ∀ n, zs (fun k => if f k = true then 1 else 0) n = zc f n
  | 0 => rfl
  | n + 1 => by rw [zs, zc, zs_zc f n]
theorem zs_zero : ∀ n, zs (fun _ => 0) n = 0
  | 0 => rfl
  | n + 1 => by rw [zs, zs_zero n]
theorem zs_swap (B : Nat → Nat → Bool) (w : Nat) : ∀ n, zs (fun s => zc (fun k => B k s) w) n = zs (fun k => zc (fun s => B k s) n) w
  | 0 => (zs_zero w).symm
  | n + 1 => by
    rw [zs, zs_swap B w n]
    have e : zs (fun k => zc (fun s => B k s) (n + 1)) w = zs (fun k => zc (fun s => B k s) n + (if B k n = true then 1 else 0)) w := rfl
    rw [e, zs_add, zs_zc (fun k => B k n)]
theorem zs_le {f : Nat → Nat} {m : Nat} : ∀ n, (∀ k, k < n → f k ≤ m) → zs f n ≤ m * n
  | 0, _ => Nat.le_refl _
  | n + 1, h => by
    have h1 := zs_le n (fun k hk => h k (by omega))
    have h2 := h n (by omega)
    rw [zs, Nat.mul_succ]
    omega
/-! bits -/
theorem popN_zc : ∀ k n, popN k n = zc (fun i => n.testBit i) k
  | 0, _ => rfl
  | k + 1, n => by
    rw [popN, popN_zc k (n / 2), zc_front]
    have e1 : (fun i => (n / 2).testBit i) = fun i => n.testBit (i + 1) := by
      funext i
      rw [Nat.testBit_succ]
    rw [e1]
    congr 1
    rw [Nat.testBit_zero]
    rcases Nat.mod_two_eq_zero_or_one n with h | h <;> simp [h]
theorem swar_zc (x : Int32) : swar x = nI (zc (bt x) 32) := by
  rw [swar_pop]
  unfold popC
  rw [popN_zc]
  congr 1
theorem zc_bt {x : Int32} {n : Nat} (hn : n ≤ 32) (h : ∀ k, n ≤ k → k < 32 → bt x k = false) {m : Nat} (h1 : n ≤ m) (h2 : m ≤ 32) : zc (bt x) m = zc (bt x) n := by
  obtain ⟨d, rfl⟩ := Nat.exists_eq_add_of_le h1
  exact zc_more d (fun k q1 q2 => h k q1 (by omega))
theorem zc_zero {x : Int32} (h : ∀ k, 30 ≤ k → k < 32 → bt x k = false) : zc (bt x) 30 = 0 ↔ x = 0 := by
  constructor
  · intro q
    refine b_zero (fun i hi => ?_)
    by_cases hi30 : i < 30
    · cases hb : bt x i with
      | false => rfl
      | true => have := zc_pos hb 30 hi30; omega
    · exact h i (by omega) hi
  · rintro rfl
    exact zc_false 30 (fun k _ => b_0 k)
/-! loops from 0 on -/
theorem xit_s {α : Type} (f : Nat → α → α) (n : Nat) (x : α) : xit f (n + 1) 0 x = f n (xit f n 0 x) := by
  rw [xit_last, Nat.zero_add]
theorem xi_cnt (f : Nat → Bool) : ∀ n, xit (fun k (acc : Int32) => acc + (if f k = true then 1 else 0)) n 0 0 = nI (zc f n)
  | 0 => rfl
  | n + 1 => by
    rw [xit_s, xi_cnt f n, zc]
    by_cases h : f n = true
    · rw [if_pos h, if_pos h, nI_1]
    · rw [if_neg h, if_neg h, Int32.add_zero, Nat.add_zero]
theorem xi_cnt2 (f : Nat → Bool) : ∀ n, xit (fun k (acc : Int32) => if f k = true then acc + 1 else acc) n 0 0 = nI (zc f n)
  | 0 => rfl
  | n + 1 => by
    rw [xit_s, xi_cnt2 f n, zc]
    by_cases h : f n = true
    · rw [if_pos h, if_pos h, nI_1]
    · rw [if_neg h, if_neg h, Nat.add_zero]
theorem xi_sum {g : Nat → Int32} {f : Nat → Nat} : ∀ n, (∀ k, k < n → g k = nI (f k)) → xit (fun k (acc : Int32) => acc + g k) n 0 0 = nI (zs f n)
  | 0, _ => rfl
  | n + 1, h => by
    rw [xit_s, xi_sum n (fun k hk => h k (by omega)), h n (by omega), nI_add, zs]
/-- one of the numbers is more by d -/
theorem xi_at {f g : Nat → Int32} {s : Nat} {d : Int32} (hs : g s = f s + d) (h : ∀ k, k ≠ s → g k = f k) : ∀ n, s < n → xit (fun k (acc : Int32) => acc + g k) n 0 0 = xit (fun k (acc : Int32) => acc + f k) n 0 0 + d
  | 0, hn => absurd hn (Nat.not_lt_zero _)
  | n + 1, hn => by
    rw [xit_s, xit_s]
    by_cases e : s = n
    · subst e
      rw [hs, xit_cong (g := fun k (acc : Int32) => acc + f k) s 0 0 (fun k y h1 h2 => by rw [h k (by omega)])]
      ac_rfl
    · rw [xi_at hs h n (by omega), h n (fun q => e q.symm)]
      ac_rfl
/-- the law's own count of bits -/
def zBits (x : Int32) : Int32 := xit (fun k (acc : Int32) => acc + (x >>> (nI k &&& 31) &&& 1)) 30 0 0
theorem zBits_n (x : Int32) : zBits x = nI (zc (bt x) 30) := by
  unfold zBits
  rw [← xi_cnt]
  exact xit_cong 30 0 0 (fun k y h1 h2 => by rw [b_shr1 (by omega)])
/-! what is in Int32 alone -/
theorem i_sub_self (x : Int32) : x - x = 0 := Int32.sub_self x
theorem i_add_sub (x y : Int32) : x + y - x = y := by
  rw [Int32.add_comm]; exact Int32.add_sub_cancel y x
theorem mLines_e {a c : Nat → Int32} {p : Nat} (hm : mSt a ≤ 30) (h1 : c 1 = a 1) (h2 : c (17 + p) = a (17 + p)) (h3 : ∀ k, k < 30 → c (109 + k) = a (109 + k)) : mLines c p = mLines a p := by
  unfold mLines
  rw [mSt_e h1]
  exact xit_cong _ _ _ (fun k y q1 q2 => by rw [h2, h3 k (by omega)])
