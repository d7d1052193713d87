/-- how many bits are set -/
def popN : Nat → Nat → Nat
  | 0, _ => 0
  | k + 1, n => n % 2 + popN k (n / 2)
def popC (x : Int32) : Nat := popN 32 x.toBitVec.toNat
/-! the JDK's count of bits is the number of bits: byte by byte -/
theorem nz_and (a b : Nat) : nI a &&& nI b = nI (a &&& b) := by
  apply Int32.toBitVec_inj.1
  show BitVec.ofNat 32 a &&& BitVec.ofNat 32 b = BitVec.ofNat 32 (a &&& b)
  apply BitVec.eq_of_getLsbD_eq
  intro i hi
  simp [hi]
theorem and_c (x y : Nat) : x &&& y = 256 * (x / 256 &&& y / 256) + (x % 256 &&& y % 256) := by
  have h1 : (x &&& y) / 256 = x / 256 &&& y / 256 := Nat.and_div_two_pow (n := 8)
  have h2 : (x &&& y) % 256 = (x % 256) &&& (y % 256) := Nat.and_mod_two_pow (n := 8)
  have h3 := Nat.div_add_mod (x &&& y) 256
  omega
def f1 (a : Nat) : Nat := a / 2 &&& 85
def f2 (a : Nat) : Nat := (a &&& 51) + (a / 4 &&& 51)
def f3 (a : Nat) : Nat := (a + a / 16) &&& 15
theorem f1_e : ∀ a, a < 256 → ∀ e, e < 2 → ((128 * e + a / 2) &&& 85) = f1 a := by decide +kernel
theorem f1_le : ∀ a, a < 256 → f1 a ≤ a := by decide +kernel
theorem f4_e : ∀ a, a < 256 → ∀ e, e < 4 → ((64 * e + a / 4) &&& 51) = (a / 4 &&& 51) := by decide +kernel
theorem f2_n : ∀ a, a < 256 → f2 (a - f1 a) ≤ 68 ∧ f2 (a - f1 a) % 16 ≤ 4 ∧ f2 (a - f1 a) / 16 ≤ 4 := by decide +kernel
theorem f3_e : ∀ a, a < 69 → ∀ e, e < 5 → ((a + 16 * e + a / 16) &&& 15) = f3 a := by decide +kernel
theorem f3_p : ∀ a, a < 256 → f3 (f2 (a - f1 a)) = popN 8 a ∧ popN 8 a ≤ 8 := by decide +kernel
theorem g1_c {a b M : Nat} (ha : a < 256) : ((256 * b + a) / 2 &&& (256 * M + 85)) = 256 * (b / 2 &&& M) + f1 a := by
  rw [and_c, show (256 * M + 85) / 256 = M by omega, show (256 * M + 85) % 256 = 85 by omega, show (256 * b + a) / 2 / 256 = b / 2 by omega, show (256 * b + a) / 2 % 256 = 128 * (b % 2) + a / 2 by omega, f1_e a ha _ (Nat.mod_lt _ (by decide))]
theorem g2_c {a b M : Nat} (ha : a < 256) : ((256 * b + a) &&& (256 * M + 51)) = 256 * (b &&& M) + (a &&& 51) := by
  rw [and_c, show (256 * M + 51) / 256 = M by omega, show (256 * M + 51) % 256 = 51 by omega, show (256 * b + a) / 256 = b by omega, show (256 * b + a) % 256 = a by omega]
theorem g4_c {a b M : Nat} (ha : a < 256) : ((256 * b + a) / 4 &&& (256 * M + 51)) = 256 * (b / 4 &&& M) + (a / 4 &&& 51) := by
  rw [and_c, show (256 * M + 51) / 256 = M by omega, show (256 * M + 51) % 256 = 51 by omega, show (256 * b + a) / 4 / 256 = b / 4 by omega, show (256 * b + a) / 4 % 256 = 64 * (b % 4) + a / 4 by omega, f4_e a ha _ (Nat.mod_lt _ (by decide))]
theorem g3_c {a b M : Nat} (ha : a < 69) (hb : b % 16 ≤ 4) : (((256 * b + a) + (256 * b + a) / 16) &&& (256 * M + 15)) = 256 * ((b + b / 16) &&& M) + f3 a := by
  rw [and_c, show (256 * M + 15) / 256 = M by omega, show (256 * M + 15) % 256 = 15 by omega, show ((256 * b + a) + (256 * b + a) / 16) / 256 = b + b / 16 by omega, show ((256 * b + a) + (256 * b + a) / 16) % 256 = a + 16 * (b % 16) + a / 16 by omega, f3_e a ha _ (by omega)]
theorem pop_c {a b k : Nat} (ha : a < 256) : popN (k + 8) (256 * b + a) = popN 8 a + popN k b := by
  have e1 : (256 * b + a) / 2 = 128 * b + a / 2 := by omega
  have e2 : (128 * b + a / 2) / 2 = 64 * b + a / 2 / 2 := by omega
  have e3 : (64 * b + a / 2 / 2) / 2 = 32 * b + a / 2 / 2 / 2 := by omega
  have e4 : (32 * b + a / 2 / 2 / 2) / 2 = 16 * b + a / 2 / 2 / 2 / 2 := by omega
  have e5 : (16 * b + a / 2 / 2 / 2 / 2) / 2 = 8 * b + a / 2 / 2 / 2 / 2 / 2 := by omega
  have e6 : (8 * b + a / 2 / 2 / 2 / 2 / 2) / 2 = 4 * b + a / 2 / 2 / 2 / 2 / 2 / 2 := by omega
  have e7 : (4 * b + a / 2 / 2 / 2 / 2 / 2 / 2) / 2 = 2 * b + a / 2 / 2 / 2 / 2 / 2 / 2 / 2 := by omega
  have e8 : (2 * b + a / 2 / 2 / 2 / 2 / 2 / 2 / 2) / 2 = b := by omega
  simp only [popN, e1, e2, e3, e4, e5, e6, e7, e8]
  omega
theorem xus_n {n k : Nat} {s : Int32} (hn : n < 2 ^ 32) (hs : ((s.toUInt32 &&& Int32.toUInt32 31).toBitVec % 32).toNat = k) : xus (nI n) s = nI (n / 2 ^ k) := pk_ushrN hn s k hs
theorem s1_n {n : Nat} (hn : n < 2 ^ 32) (h : n / 2 &&& 1431655765 ≤ n) : sw1 (nI n) = nI (n - (n / 2 &&& 1431655765)) := by
  unfold sw1
  rw [xus_n (k := 1) hn (by decide), show (1431655765 : Int32) = nI 1431655765 from rfl, nz_and, pk_sub (by simpa using h)]
theorem s2_n {n : Nat} (hn : n < 2 ^ 32) : sw2 (nI n) = nI ((n &&& 858993459) + (n / 4 &&& 858993459)) := by
  unfold sw2
  rw [xus_n (k := 2) hn (by decide), show (858993459 : Int32) = nI 858993459 from rfl, nz_and, nz_and, nI_add]
theorem s3_n {n : Nat} (hn : n < 2 ^ 32) : sw3 (nI n) = nI ((n + n / 16) &&& 252645135) := by
  unfold sw3
  rw [xus_n (k := 4) hn (by decide), show (252645135 : Int32) = nI 252645135 from rfl, nI_add, nz_and]
theorem s4_n {n : Nat} (hn : n < 2 ^ 32) : sw4 (nI n) = nI (n + n / 256) := by
  unfold sw4
  rw [xus_n (k := 8) hn (by decide), nI_add]
theorem s5_n {n : Nat} (hn : n < 2 ^ 32) : sw5 (nI n) = nI (n + n / 65536) := by
  unfold sw5
  rw [xus_n (k := 16) hn (by decide), nI_add]
theorem M_1 : (1431655765 : Nat) = 256 * (256 * (256 * 85 + 85) + 85) + 85 := by decide
theorem M_2 : (858993459 : Nat) = 256 * (256 * (256 * 51 + 51) + 51) + 51 := by decide
theorem M_3 : (252645135 : Nat) = 256 * (256 * (256 * 15 + 15) + 15) + 15 := by decide
def q4 (b3 b2 b1 b0 : Nat) : Nat := 256 * (256 * (256 * b3 + b2) + b1) + b0
theorem m_1 {b0 b1 b2 b3 : Nat} (h0 : b0 < 256) (h1 : b1 < 256) (h2 : b2 < 256) : q4 b3 b2 b1 b0 / 2 &&& 1431655765 = q4 (f1 b3) (f1 b2) (f1 b1) (f1 b0) := by
  unfold q4
  rw [M_1, g1_c h0, g1_c h1, g1_c h2]
  unfold f1
  rfl
theorem m_2 {b0 b1 b2 b3 : Nat} (h0 : b0 < 256) (h1 : b1 < 256) (h2 : b2 < 256) : (q4 b3 b2 b1 b0 &&& 858993459) + (q4 b3 b2 b1 b0 / 4 &&& 858993459) = q4 (f2 b3) (f2 b2) (f2 b1) (f2 b0) := by
  unfold q4
  rw [M_2, g2_c h0, g2_c h1, g2_c h2, g4_c h0, g4_c h1, g4_c h2]
  unfold f2
  omega
theorem m_3 {b0 b1 b2 b3 : Nat} (h0 : b0 < 69) (h1 : b1 < 69) (h2 : b2 < 69) (k1 : b1 % 16 ≤ 4) (k2 : b2 % 16 ≤ 4) (k3 : b3 % 16 ≤ 4) : (q4 b3 b2 b1 b0 + q4 b3 b2 b1 b0 / 16) &&& 252645135 = q4 (f3 b3) (f3 b2) (f3 b1) (f3 b0) := by
  unfold q4
  rw [M_3, g3_c h0 (by omega), g3_c h1 (by omega), g3_c h2 (by omega)]
  unfold f3
  rfl
theorem q4_lt {b3 b2 b1 b0 : Nat} (h3 : b3 < 256) (h2 : b2 < 256) (h1 : b1 < 256) (h0 : b0 < 256) : q4 b3 b2 b1 b0 < 2 ^ 32 := by
  unfold q4
  omega
theorem m_4 {d3 d2 d1 d0 : Nat} (h3 : d3 ≤ 8) (h2 : d2 ≤ 8) (h1 : d1 ≤ 8) (h0 : d0 ≤ 8) : sw5 (sw4 (nI (q4 d3 d2 d1 d0))) &&& 63 = nI (d0 + (d1 + (d2 + d3))) := by
  rw [s4_n (q4_lt (by omega) (by omega) (by omega) (by omega)), s5_n (by unfold q4; omega), show (63 : Int32) = nI 63 from rfl, nz_and]
  have e : ∀ z, z &&& 63 = z % 64 := fun z => Nat.and_two_pow_sub_one_eq_mod z 6
  rw [e]
  have a1 : q4 d3 d2 d1 d0 / 256 = 65536 * d3 + 256 * d2 + d1 := by unfold q4; omega
  rw [a1]
  have a2 : (q4 d3 d2 d1 d0 + (65536 * d3 + 256 * d2 + d1)) / 65536 = 256 * d3 + (d2 + d3) := by unfold q4; omega
  rw [a2]
  have a3 : (q4 d3 d2 d1 d0 + (65536 * d3 + 256 * d2 + d1) + (256 * d3 + (d2 + d3))) % 64 = d0 + (d1 + (d2 + d3)) := by unfold q4; omega
  rw [a3]
theorem pop_4 {b3 b2 b1 b0 : Nat} (h2 : b2 < 256) (h1 : b1 < 256) (h0 : b0 < 256) : popN 32 (q4 b3 b2 b1 b0) = popN 8 b0 + (popN 8 b1 + (popN 8 b2 + popN 8 b3)) := by
  unfold q4
  have e1 := pop_c (k := 24) (b := 256 * (256 * b3 + b2) + b1) h0
  have e2 := pop_c (k := 16) (b := 256 * b3 + b2) h1
  have e3 := pop_c (k := 8) (b := b3) h2
  exact e1.trans (by rw [e2, e3])
theorem m_s1 {b3 b2 b1 b0 : Nat} (h3 : b3 < 256) (h2 : b2 < 256) (h1 : b1 < 256) (h0 : b0 < 256) : sw1 (nI (q4 b3 b2 b1 b0)) = nI (q4 (b3 - f1 b3) (b2 - f1 b2) (b1 - f1 b1) (b0 - f1 b0)) := by
  have l0 := f1_le b0 h0
  have l1 := f1_le b1 h1
  have l2 := f1_le b2 h2
  have l3 := f1_le b3 h3
  have e := m_1 (b3 := b3) h0 h1 h2
  rw [s1_n (q4_lt h3 h2 h1 h0) (by rw [e]; unfold q4; omega), e]
  congr 1
  unfold q4
  omega
theorem swar_4 {b3 b2 b1 b0 : Nat} (h3 : b3 < 256) (h2 : b2 < 256) (h1 : b1 < 256) (h0 : b0 < 256) : swar (nI (q4 b3 b2 b1 b0)) = nI (popN 32 (q4 b3 b2 b1 b0)) := by
  obtain ⟨q0, r0, t0⟩ := f2_n b0 h0
  obtain ⟨q1, r1, t1⟩ := f2_n b1 h1
  obtain ⟨q2, r2, t2⟩ := f2_n b2 h2
  obtain ⟨q3, r3, t3⟩ := f2_n b3 h3
  obtain ⟨p0, u0⟩ := f3_p b0 h0
  obtain ⟨p1, u1⟩ := f3_p b1 h1
  obtain ⟨p2, u2⟩ := f3_p b2 h2
  obtain ⟨p3, u3⟩ := f3_p b3 h3
  unfold swar
  rw [m_s1 h3 h2 h1 h0, s2_n (q4_lt (by omega) (by omega) (by omega) (by omega)), m_2 (by omega) (by omega) (by omega), s3_n (q4_lt (by omega) (by omega) (by omega) (by omega)), m_3 (by omega) (by omega) (by omega) r1 r2 r3, m_4 (by omega) (by omega) (by omega) (by omega), pop_4 h2 h1 h0, p0, p1, p2, p3]
theorem swar_pop (x : Int32) : swar x = nI (popC x) := by
  have hn := x.toBitVec.isLt
  have e : x = nI (q4 (x.toBitVec.toNat / 16777216) (x.toBitVec.toNat / 65536 % 256) (x.toBitVec.toNat / 256 % 256) (x.toBitVec.toNat % 256)) := by
    have : q4 (x.toBitVec.toNat / 16777216) (x.toBitVec.toNat / 65536 % 256) (x.toBitVec.toNat / 256 % 256) (x.toBitVec.toNat % 256) = x.toBitVec.toNat := by
      unfold q4
      omega
    rw [this]
    apply Int32.toBitVec_inj.mp
    show _ = BitVec.ofNat 32 _
    simp
  have hp : ∀ n, n < 2 ^ 32 → popC (nI n) = popN 32 n := fun n h => by unfold popC; rw [pk_tn h]
  have h3 : x.toBitVec.toNat / 16777216 < 256 := by omega
  rw [e, hp _ (q4_lt h3 (by omega) (by omega) (by omega))]
  exact swar_4 h3 (by omega) (by omega) (by omega)
